theorem sub_toInt {a b : Nat} (ha : a < 2 ^ 30) (hb : b < 2 ^ 30) : (nI a - nI b).toInt = (a : Int) - b := by
  rw [Int32.toInt_sub, nI_toInt (by omega), nI_toInt (by omega)]
  exact Int.bmod_eq_of_le (by omega) (by omega)
theorem late_iff {d c k : Nat} (hd : d < 2 ^ 29) (hc : c < 2 ^ 29) (hk : k < 2 ^ 29) : (nI k < nI d - nI c) ↔ (nI c + nI k < nI d) := by
  rw [Int32.lt_iff_toInt_lt, Int32.lt_iff_toInt_lt, sub_toInt (by omega) (by omega), nI_add, nI_toInt (by omega), nI_toInt (by omega), nI_toInt (by omega)]
  omega
theorem isIn_eq {i : Int32} {n : Nat} (hn : n < 2 ^ 31) : f_X11_isIn i (nI n) = true ↔ vp_in i n := by
  constructor
  · exact isIn_vin hn
  · intro h
    cases q : f_X11_isIn i (nI n)
    · exact absurd h (isIn_nin hn q)
    · rfl
theorem inL_eq {i : Int32} {n : Nat} (hn : n + 1 < 2 ^ 31) : f_X12_in i.toInt64 0 (nI (n + 1) - 1).toInt64 = true ↔ vp_in i (n + 1) := by
  rw [in_iff, Int64.le_iff_toInt_le, Int64.le_iff_toInt_le, Int32.toInt_toInt64, Int32.toInt_toInt64, nI_pred, nI_toInt (by omega), show (0 : Int64).toInt = 0 from rfl, vp_in_iff]
  omega
theorem bool_eq {a b : Bool} (h : a = true ↔ b = true) : a = b := by
  cases a
  · cases b
    · rfl
    · exact absurd (h.mpr rfl) (by decide)
  · exact (h.mp rfl).symm
theorem inL_P {i : Int32} {n : Nat} (hn : n < 100) : f_X12_in i.toInt64 0 (nI n - 1).toInt64 = f_X11_isIn i (nI n) := by
  refine bool_eq ((show _ ↔ vp_in i n from ?_).trans (isIn_eq (by omega)).symm)
  cases n with
  | zero =>
    rw [in_iff, Int64.le_iff_toInt_le, Int64.le_iff_toInt_le, Int32.toInt_toInt64, Int32.toInt_toInt64, show (0 : Int64).toInt = 0 from rfl, show (nI 0 - 1).toInt = -1 from rfl, vp_in_iff]
    omega
  | succ n => exact inL_eq (by omega)
section ST
variable {N P B Q : Nat} {day votes isOpen baskets lays recs fneed clos pastN logN : Int32} {boatO seaO faultO daysO backB sailB plc car bnd bsk dyL rsn pastF logF mW : Nat → Int32}
variable {nums bNames pNames fBoats : Nat → Int32} {nB nP mPpl mBts : Int32} {mNum mNam mFst mBnm : Nat → Int32}
theorem eq_isPerson (hs : RSu P B Q nums bNames pNames fBoats nB nP mPpl mBts mNum mNam mFst mBnm) (x : Int32) : f_X11_isPerson nP x = f_X12_isPerson mPpl x := by
  obtain ⟨a, b, -, -, ⟨-, hP⟩, -⟩ := hs
  unfold f_X11_isPerson f_X12_isPerson
  rw [a, b]
  exact (inL_P (by omega)).symm
theorem eq_isBoat (hs : RSu P B Q nums bNames pNames fBoats nB nP mPpl mBts mNum mNam mFst mBnm) (x : Int32) : f_X11_isBoat nB x = f_X12_isBoat mBts x := by
  obtain ⟨-, -, a, b, -, hB, -⟩ := hs
  unfold f_X11_isBoat f_X12_isBoat
  rw [a, b]
  exact (inL_P (by omega)).symm
theorem eq_stateOf (h : RSt N P B Q day votes isOpen baskets lays recs fneed clos boatO seaO faultO daysO backB sailB plc car bnd bsk dyL rsn pastF pastN logF logN mW) (hs : RSu P B Q nums bNames pNames fBoats nB nP mPpl mBts mNum mNam mFst mBnm) (hN : N ≤ 600) : f_X10_stateOfVote nums day votes isOpen clos = f_X12_stateOf mNum mW := by
  unfold f_X10_stateOfVote f_X12_stateOf f_X12_isInTime
  rw [rs_votes h, rs_open h, rs_closed h, rs_day h]
  by_cases q : votes = 0
  · rw [if_pos q, if_pos q]
  · rw [if_neg q, if_neg q]
    cases q2 : tb isOpen
    · have hv : decide (votes ≤ 0) = false := by
        rw [vin_le0 h.1.2.1.2]
        exact decide_eq_false q
      obtain ⟨-, e5, hc⟩ := h.1.2.2.2.2.2.2 q2
      obtain ⟨d, ed, hd⟩ := rs_day_n h
      obtain ⟨ec, hc2⟩ := vin_nI hc
      have e8 : f_X7_numberOf nums 8 = mNum 8 := su_num hs (i := 8) (by decide)
      obtain ⟨ek, hk⟩ := vin_nI hs.2.2.2.2.2.2.2.2.2.2.2.2.1
      have hl := late_iff (d := d) (c := clos.toNatClampNeg) (k := (mNum 8).toNatClampNeg) (by omega) (by omega) (by omega)
      rw [← ek, ← ec, ← ed] at hl
      rw [hv, e8, e5]
      show (if clos + mNum 8 < day then (3 : Int32) else 2) = bif (if mNum 8 < day - clos then false else true) then 2 else 3
      by_cases z : clos + mNum 8 < day
      · rw [if_pos z, if_pos (hl.mpr z)]; rfl
      · rw [if_neg z, if_neg (fun y => z (hl.mp y))]; rfl
    · rfl
end ST
