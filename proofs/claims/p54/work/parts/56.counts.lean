theorem mskB_or2 (p q : Nat → Bool) (n : Nat) : mskB p n ||| mskB q n = mskB (fun i => p i || q i) n :=
  Nat.eq_of_testBit_eq (fun i => by
    rw [Nat.testBit_or, mskB_bit, mskB_bit, mskB_bit]
    cases decide (i < n) <;> simp)
theorem m_allLaid (mW : Nat → Int32) {P : Nat} (hP : P ≤ 20) : f_X12_allLaid (nI P) mW = nI (mskB (fun o => decide (mW (9 + 11 * o + 5) = 2) && (decide (mW (9 + 11 * o + 8) = 0) || decide (mW (9 + 11 * o + 8) = 1) || decide (mW (9 + 11 * o + 8) = 2) || decide (mW (9 + 11 * o + 8) = 3))) P) := by
  have e : f_X12_allLaid (nI P) mW = (((0 ||| f_X12_setIn (nI P) mW (nI 0)) ||| f_X12_setIn (nI P) mW (nI 1)) ||| f_X12_setIn (nI P) mW (nI 2)) ||| f_X12_setIn (nI P) mW (nI 3) := by
    refine (iter_s _ _ 3).trans (congrArg (· ||| f_X12_setIn (nI P) mW (nI 3)) ?_)
    refine (iter_s _ _ 2).trans (congrArg (· ||| f_X12_setIn (nI P) mW (nI 2)) ?_)
    refine (iter_s _ _ 1).trans (congrArg (· ||| f_X12_setIn (nI P) mW (nI 1)) ?_)
    refine (iter_s _ _ 0).trans (congrArg (· ||| f_X12_setIn (nI P) mW (nI 0)) ?_)
    exact iter_z _ _
  rw [e, m_setIn _ _ hP, m_setIn _ _ hP, m_setIn _ _ hP, m_setIn _ _ hP, Int32.zero_or, or_nI, or_nI, or_nI, mskB_or2, mskB_or2, mskB_or2]
  refine congrArg nI (mskB_cong (fun o ho => ?_))
  cases decide (mW (9 + 11 * o + 5) = 2)
  · rfl
  · simp only [Bool.true_and]
    rfl
theorem in4 {x : Int32} (h : vp_in x 4) : (decide (x = 0) || decide (x = 1) || decide (x = 2) || decide (x = 3)) = true := by
  obtain ⟨e, h1⟩ := vin_nI h
  rw [e]
  generalize x.toNatClampNeg = n at h1
  match n, h1 with
  | 0, _ => rfl
  | 1, _ => rfl
  | 2, _ => rfl
  | 3, _ => rfl
section RR2
variable {N P B Q : Nat} {day votes isOpen baskets lays recs fneed clos pastN logN : Int32} {boatO seaO faultO daysO backB sailB plc car bnd bsk dyL rsn pastF logF mW : Nat → Int32}
theorem eq_turnout (h : RSt N P B Q day votes isOpen baskets lays recs fneed clos boatO seaO faultO daysO backB sailB plc car bnd bsk dyL rsn pastF pastN logF logN mW) (hP : P ≤ 20) : f_X9_countAt plc 2 = f_X12_turnout (nI P) mW := by
  unfold f_X12_turnout
  rw [x_countAt, m_allLaid mW hP, ones_msk _ (by omega), cntB_ext _ hP (fun o h1 h2 => by rw [rs_plc_no h h1 h2]; rfl)]
  refine congrArg nI (cntB_cong (fun o ho => ?_))
  rw [rs_plc h ho, rs_bsk h ho]
  by_cases q : plc o = 2
  · rw [decide_eq_true q, in4 ((h.2.1 o ho).2.2.2.2.2.2.2.2.2.2.2.2.2.2 (Or.inl q)).1]; rfl
  · rw [decide_eq_false q]; rfl
theorem eq_atSea (h : RSt N P B Q day votes isOpen baskets lays recs fneed clos boatO seaO faultO daysO backB sailB plc car bnd bsk dyL rsn pastF pastN logF logN mW) (hP : P ≤ 20) : f_X2_peopleAtSea seaO = f_X12_atSeaMany (nI P) mW := by
  have h1 : f_X2_peopleAtSea seaO = nI (cntB (fun o => !(seaO o == 0)) 20) := iter_cnt (N := 20) (fun n s hn => by rw [x_sea hn]) 20 (Nat.le_refl _)
  have h2 : f_X12_atSeaMany (nI P) mW = nI (cntB (fun o => f_X12_isAtSea mW (nI o)) P) := by
    unfold f_X12_atSeaMany
    rw [nI_clamp (by omega)]
    exact iter_cnt (N := P) (fun n s hn => by rw [Int32.add_zero]) P (Nat.le_refl _)
  rw [h1, h2, cntB_ext _ hP (fun o h1 h2 => by rw [rs_sea_no h h1 h2]; rfl)]
  exact congrArg nI (cntB_cong (fun o ho => by rw [← eq_sea h hP ho, x_sea (by omega)]))
theorem eq_boatsOut (h : RSt N P B Q day votes isOpen baskets lays recs fneed clos boatO seaO faultO daysO backB sailB plc car bnd bsk dyL rsn pastF pastN logF logN mW) (hB : B ≤ 6) : f_X2_boatsOut backB = f_X12_outOn (nI B) mW day := by
  have h1 : f_X2_boatsOut backB = nI (cntB (fun o => !(backB o == 0)) 6) := iter_cnt (N := 6) (fun n s hn => by rw [x_out hn]) 6 (Nat.le_refl _)
  have h2 : f_X12_outOn (nI B) mW day = nI (cntB (fun o => !(backB o == 0)) B) := by
    unfold f_X12_outOn
    rw [nI_clamp (by omega)]
    refine iter_cnt (N := B) (fun n s hn => ?_) B (Nat.le_refl _)
    rw [← eq_out h hB hn, x_out (by omega), ofB_1 (by omega), Int32.add_zero]
    rcases (h.2.2.2.1 n hn).1 with ⟨-, q⟩ | ⟨-, q1, -, q2⟩
    · rw [q]; rfl
    · rw [q1, if_neg (fun z => by
        have a1 := Int32.le_iff_toInt_le.mp z
        have a2 := Int32.lt_iff_toInt_lt.mp q2
        omega)]
  rw [h1, h2, cntB_ext _ hB (fun o h1 h2 => by rw [h.2.2.2.2.1 o h1 h2]; rfl)]
end RR2
