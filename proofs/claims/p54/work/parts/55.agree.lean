section RR
variable {N P B Q : Nat} {day votes isOpen baskets lays recs fneed clos pastN logN : Int32} {boatO seaO faultO daysO backB sailB plc car bnd bsk dyL rsn pastF logF mW : Nat → Int32}
theorem rs_boatO (h : RSt N P B Q day votes isOpen baskets lays recs fneed clos boatO seaO faultO daysO backB sailB plc car bnd bsk dyL rsn pastF pastN logF logN mW) {p : Nat} (hp : p < P) : mW (9 + 11 * p) = boatO p := (h.2.1 p hp).1.1
theorem rs_faultO (h : RSt N P B Q day votes isOpen baskets lays recs fneed clos boatO seaO faultO daysO backB sailB plc car bnd bsk dyL rsn pastF pastN logF logN mW) {p : Nat} (hp : p < P) : mW (9 + 11 * p + 2) = faultO p := (h.2.1 p hp).2.2.1.1
theorem rs_daysO (h : RSt N P B Q day votes isOpen baskets lays recs fneed clos boatO seaO faultO daysO backB sailB plc car bnd bsk dyL rsn pastF pastN logF logN mW) {p : Nat} (hp : p < P) : mW (9 + 11 * p + 3) = daysO p := (h.2.1 p hp).2.2.2.1.1
theorem rs_plc (h : RSt N P B Q day votes isOpen baskets lays recs fneed clos boatO seaO faultO daysO backB sailB plc car bnd bsk dyL rsn pastF pastN logF logN mW) {p : Nat} (hp : p < P) : mW (9 + 11 * p + 5) = plc p := (h.2.1 p hp).2.2.2.2.2.1.1
theorem rs_car (h : RSt N P B Q day votes isOpen baskets lays recs fneed clos boatO seaO faultO daysO backB sailB plc car bnd bsk dyL rsn pastF pastN logF logN mW) {p : Nat} (hp : p < P) : mW (9 + 11 * p + 6) = car p := (h.2.1 p hp).2.2.2.2.2.2.1.1
theorem rs_bnd (h : RSt N P B Q day votes isOpen baskets lays recs fneed clos boatO seaO faultO daysO backB sailB plc car bnd bsk dyL rsn pastF pastN logF logN mW) {p : Nat} (hp : p < P) : mW (9 + 11 * p + 7) = bnd p := (h.2.1 p hp).2.2.2.2.2.2.2.2.2.1.1
theorem rs_bsk (h : RSt N P B Q day votes isOpen baskets lays recs fneed clos boatO seaO faultO daysO backB sailB plc car bnd bsk dyL rsn pastF pastN logF logN mW) {p : Nat} (hp : p < P) : mW (9 + 11 * p + 8) = bsk p := (h.2.1 p hp).2.2.2.2.2.2.2.2.2.2.1
theorem rs_dyL (h : RSt N P B Q day votes isOpen baskets lays recs fneed clos boatO seaO faultO daysO backB sailB plc car bnd bsk dyL rsn pastF pastN logF logN mW) {p : Nat} (hp : p < P) : mW (9 + 11 * p + 9) = dyL p := (h.2.1 p hp).2.2.2.2.2.2.2.2.2.2.2.1
theorem rs_rsn (h : RSt N P B Q day votes isOpen baskets lays recs fneed clos boatO seaO faultO daysO backB sailB plc car bnd bsk dyL rsn pastF pastN logF logN mW) {p : Nat} (hp : p < P) : mW (9 + 11 * p + 10) = rsn p := (h.2.1 p hp).2.2.2.2.2.2.2.2.2.2.2.2.1.1
theorem rs_out (h : RSt N P B Q day votes isOpen baskets lays recs fneed clos boatO seaO faultO daysO backB sailB plc car bnd bsk dyL rsn pastF pastN logF logN mW) {p : Nat} (h1 : P ≤ p) (h2 : p < 20) : RNo boatO seaO faultO daysO plc car bsk dyL rsn mW p := h.2.2.1 p h1 h2
theorem rs_plc_no (h : RSt N P B Q day votes isOpen baskets lays recs fneed clos boatO seaO faultO daysO backB sailB plc car bnd bsk dyL rsn pastF pastN logF logN mW) {p : Nat} (h1 : P ≤ p) (h2 : p < 20) : plc p = 0 := (rs_out h h1 h2).2.2.2.2.1
theorem rs_sea_no (h : RSt N P B Q day votes isOpen baskets lays recs fneed clos boatO seaO faultO daysO backB sailB plc car bnd bsk dyL rsn pastF pastN logF logN mW) {p : Nat} (h1 : P ≤ p) (h2 : p < 20) : seaO p = 0 := (rs_out h h1 h2).2.1
theorem eq_carried (h : RSt N P B Q day votes isOpen baskets lays recs fneed clos boatO seaO faultO daysO backB sailB plc car bnd bsk dyL rsn pastF pastN logF logN mW) (hP : P ≤ 20) (q : Int32) : f_X9_carriedBy plc car q = f_X12_carriedBy (nI P) mW q := by
  rw [x_carried, m_carried mW q hP, mskB_ext _ hP (fun o h1 h2 => by rw [rs_plc_no h h1 h2]; rfl)]
  exact congrArg nI (mskB_cong (fun o ho => by rw [rs_plc h ho, rs_car h ho]))
theorem eq_setIn (h : RSt N P B Q day votes isOpen baskets lays recs fneed clos boatO seaO faultO daysO backB sailB plc car bnd bsk dyL rsn pastF pastN logF logN mW) (hP : P ≤ 20) (q : Int32) : f_X9_maskIn plc bsk q = f_X12_setIn (nI P) mW q := by
  rw [x_maskIn, m_setIn mW q hP, mskB_ext _ hP (fun o h1 h2 => by rw [rs_plc_no h h1 h2]; rfl)]
  exact congrArg nI (mskB_cong (fun o ho => by rw [rs_plc h ho, rs_bsk h ho]))
theorem vin_le0 {x : Int32} {n : Nat} (h : vp_in x n) : decide (x ≤ 0) = decide (x = 0) := by
  obtain ⟨e, -⟩ := vin_nI h
  have hl := nI_toNat_lt x
  refine decide_eq_decide.mpr ⟨fun q => ?_, fun q => by rw [q]; decide⟩
  rw [e] at q ⊢
  have := (nI_leI (a := x.toNatClampNeg) (b := 0) hl (by decide)).mp q
  rw [show x.toNatClampNeg = 0 by omega]
  rfl
theorem eq_wrong (h : RSt N P B Q day votes isOpen baskets lays recs fneed clos boatO seaO faultO daysO backB sailB plc car bnd bsk dyL rsn pastF pastN logF logN mW) (hP : P ≤ 20) : f_X9_wrongMask plc rsn = f_X12_wrongSet (nI P) mW := by
  rw [x_wrong, m_wrong mW hP, mskB_ext _ hP (fun o h1 h2 => by rw [rs_plc_no h h1 h2]; rfl)]
  refine congrArg nI (mskB_cong (fun o ho => ?_))
  have hr : vp_in (rsn o) 4 := (h.2.1 o ho).2.2.2.2.2.2.2.2.2.2.2.2.1.2
  rw [rs_plc h ho, rs_rsn h ho, vin_le0 hr]
theorem eq_struck (h : RSt N P B Q day votes isOpen baskets lays recs fneed clos boatO seaO faultO daysO backB sailB plc car bnd bsk dyL rsn pastF pastN logF logN mW) (hP : P ≤ 20) : f_X9_countAt plc 3 = f_X12_struckMany (nI P) mW := by
  rw [x_countAt, m_struck mW hP, cntB_ext _ hP (fun o h1 h2 => by rw [rs_plc_no h h1 h2]; rfl)]
  exact congrArg nI (cntB_cong (fun o ho => by rw [rs_plc h ho]))
theorem eq_laidFor (h : RSt N P B Q day votes isOpen baskets lays recs fneed clos boatO seaO faultO daysO backB sailB plc car bnd bsk dyL rsn pastF pastN logF logN mW) (hP : P ≤ 20) {p : Nat} (hp : p < P) : f_X9_laidForOthers plc car (nI p) = mW (9 + 11 * p + 4) := by
  rw [x_laidFor, cntB_ext _ hP (fun o h1 h2 => by rw [rs_plc_no h h1 h2]; rfl)]
  exact ((h.2.1 p hp).2.2.2.2.1).symm
theorem eq_sea (h : RSt N P B Q day votes isOpen baskets lays recs fneed clos boatO seaO faultO daysO backB sailB plc car bnd bsk dyL rsn pastF pastN logF logN mW) (hP : P ≤ 20) {p : Nat} (hp : p < P) : f_X2_isAtSea seaO (nI p) = f_X12_isAtSea mW (nI p) := by
  rw [x_sea (by omega), m_sea (by omega)]
  rcases (h.2.1 p hp).2.1 with ⟨h1, h2⟩ | ⟨h1, h2, h3, -⟩
  · rw [h1, h2]; rfl
  · rw [h2, beq_false_of_ne h1, decide_eq_true (Int32.not_lt.mp (fun q => h3 (Or.inl q)))]; rfl
theorem eq_out (h : RSt N P B Q day votes isOpen baskets lays recs fneed clos boatO seaO faultO daysO backB sailB plc car bnd bsk dyL rsn pastF pastN logF logN mW) (hB : B ≤ 6) {b : Nat} (hb : b < B) : f_X2_isOut backB (nI b) = f_X12_isOut mW (nI b) := by
  rw [x_out (by omega), m_out (by omega)]
  rcases (h.2.2.2.1 b hb).1 with ⟨h1, h2⟩ | ⟨h1, -, h3, h4⟩
  · rw [h1, h2]; rfl
  · have hz : ¬ backB b = 0 := by
      intro q
      rw [q] at h4
      obtain ⟨e, -⟩ := vin_nI h.1.1.2
      have := Int32.lt_iff_toInt_lt.mp h4
      have h0 := (vp_in_iff.mp h.1.1.2).1
      have : (0 : Int32).toInt = 0 := rfl
      omega
    rw [h1, beq_false_of_ne hz]; rfl
end RR
