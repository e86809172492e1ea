section FA
variable {N P B Q : Nat} {day votes isOpen baskets lays recs fneed clos pastN logN : Int32} {boatO seaO faultO daysO backB sailB plc car bnd bsk dyL rsn pastF logF mW : Nat → Int32}
variable {nums bNames pNames fBoats : Nat → Int32} {nB nP mPpl mBts : Int32} {mNum mNam mFst mBnm : Nat → Int32}
theorem eq_share (h : RSt N P B Q day votes isOpen baskets lays recs fneed clos boatO seaO faultO daysO backB sailB plc car bnd bsk dyL rsn pastF pastN logF logN mW) (hs : RSu P B Q nums bNames pNames fBoats nB nP mPpl mBts mNum mNam mFst mBnm) (x : Int32) : f_X11_share plc bsk x = f_X12_share mPpl mW x := by
  have e : f_X9_countIn plc bsk x = f_X12_ones (f_X12_setIn mPpl mW x) := by
    unfold f_X9_countIn
    rw [← hs.2.1.symm, ← eq_setIn h (su_P hs), x_maskIn, bitc_msk _ (by decide), ones_msk _ (by decide)]
  have e2 : f_X9_turnout plc = f_X12_turnout mPpl mW := by
    unfold f_X9_turnout
    rw [eq_turnout h (su_P hs), ← hs.2.1]
  unfold f_X11_share f_X12_share
  rw [eq_isBasket, e2, e]
/-- the days at sea, as a long and as an int -/
theorem sum_days (h : RSt N P B Q day votes isOpen baskets lays recs fneed clos boatO seaO faultO daysO backB sailB plc car bnd bsk dyL rsn pastF pastN logF logN mW) (hP : P ≤ 20) (hN : N ≤ 600) (n : Nat) : n ≤ P → ∃ k, k ≤ 59400 * n ∧ L_X2_daysAtSeaOfAll_4 daysO n = lN k ∧ L_X12_seafaring_4 mW n = nI k := by
  induction n with
  | zero => exact fun _ => ⟨0, Nat.le_refl _, iter_z _ _, iter_z _ _⟩
  | succ n ih =>
    intro hn
    obtain ⟨k, h1, h2, h3⟩ := ih (by omega)
    have hd := h.2.1 n (by omega)
    obtain ⟨d, q1, q2⟩ := vp_in_of hd.2.2.2.1.2 (by omega)
    refine ⟨k + d, by omega, ?_, ?_⟩
    · refine (iter_s _ _ _).trans ?_
      show L_X2_daysAtSeaOfAll_4 daysO n + (f_X2_daysAtSeaOf daysO (nI n)).toInt64 = _
      rw [h2, x_daysO (by omega), q2, nI_l (by omega), lN_add]
    · refine (iter_s _ _ _).trans ?_
      show L_X12_seafaring_4 mW n + f_X12_of mW (nI n) 3 = _
      rw [h3, of_3 (by omega), hd.2.2.2.1.1, q2, nI_add]
theorem sum_out (h : RSt N P B Q day votes isOpen baskets lays recs fneed clos boatO seaO faultO daysO backB sailB plc car bnd bsk dyL rsn pastF pastN logF logN mW) (n : Nat) : P + n ≤ 20 → L_X2_daysAtSeaOfAll_4 daysO (P + n) = L_X2_daysAtSeaOfAll_4 daysO P := by
  induction n with
  | zero => exact fun _ => rfl
  | succ n ih =>
    intro hn
    refine (iter_s _ _ _).trans ?_
    show L_X2_daysAtSeaOfAll_4 daysO (P + n) + (f_X2_daysAtSeaOf daysO (nI (P + n))).toInt64 = _
    rw [ih (by omega), x_daysO (by omega), (rs_out h (p := P + n) (by omega) (by omega)).2.2.2.1]
    exact Int64.add_zero _
theorem eq_seafaring (h : RSt N P B Q day votes isOpen baskets lays recs fneed clos boatO seaO faultO daysO backB sailB plc car bnd bsk dyL rsn pastF pastN logF logN mW) (hs : RSu P B Q nums bNames pNames fBoats nB nP mPpl mBts mNum mNam mFst mBnm) (hN : N ≤ 600) : f_X11_seafaring nP day daysO = f_X12_seafaring mPpl mW := by
  have hP := su_P hs
  have hP2 := hs.2.2.2.2.1.1
  obtain ⟨d, hd, hdn⟩ := rs_day_n h
  obtain ⟨k, h1, h2, h3⟩ := sum_days h hP hN P (Nat.le_refl _)
  have h4 : f_X2_daysAtSeaOfAll daysO = lN k := by
    have q := sum_out h (20 - P) (by omega)
    rw [show P + (20 - P) = 20 by omega] at q
    exact q.trans h2
  have hm : d * P ≤ 59400 * 20 := Nat.mul_le_mul (by omega) hP
  have e1 : day.toInt64 * nP.toInt64 = lN (d * P) := by rw [hd, hs.1, nI_l (by omega), nI_l (by omega), lN_mul]
  have e2 : mW 0 * mPpl = nI (d * P) := by rw [rs_day h, hd, hs.2.1]; exact (Int32.ofNat_mul d P).symm
  have e3 : mPpl.toNatClampNeg = P := by rw [hs.2.1]; exact nI_clamp (by omega)
  have f1 : FP.l2d (lN k) = FP.i2d (nI k) := by unfold FP.l2d FP.i2d FP.Core.l2d FP.Core.i2d; rw [lN_toInt (by omega), nI_toInt (by omega)]
  have f2 : FP.l2d (lN (d * P)) = FP.i2d (nI (d * P)) := by unfold FP.l2d FP.i2d FP.Core.l2d FP.Core.i2d; rw [lN_toInt (by omega), nI_toInt (by omega)]
  unfold f_X11_seafaring f_X12_seafaring
  rw [e1, e2, e3, h3, h4, f1, f2, rs_day h, hd]
  by_cases q : d = 0
  · rw [if_pos (show lN (d * P) = 0 by rw [q, Nat.zero_mul]; rfl), if_pos (show nI d = 0 by rw [q]; rfl)]
  · have q1 : 0 < d * P := Nat.mul_pos (by omega) (by omega)
    rw [if_neg (show ¬ lN (d * P) = 0 from fun z => by have := (lN_eq (b := 0) (by omega) (by decide)).mp z; omega), if_neg (show ¬ nI d = 0 from fun z => by have := (nI_eq (b := 0) (by omega) (by decide)).mp z; omega)]
end FA
