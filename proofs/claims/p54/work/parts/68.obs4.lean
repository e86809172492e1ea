theorem cntB_not (p : Nat → Bool) : ∀ n, cntB p n + cntB (fun i => !p i) n = n
  | 0 => rfl
  | n + 1 => by
    have := cntB_not p n
    rw [cntB, cntB]
    cases p n
    · show _ + 0 + (_ + 1) = _
      omega
    · show _ + 1 + (_ + 0) = _
      omega
theorem isDays_eq (x : Int32) : f_X11_isDays x = f_X12_in x.toInt64 1 99 := by
  refine bool_eq ?_
  rw [in_iff, Int64.le_iff_toInt_le, Int64.le_iff_toInt_le, Int32.toInt_toInt64, show (1 : Int64).toInt = 1 from rfl, show (99 : Int64).toInt = 99 from rfl]
  unfold f_X11_isDays
  by_cases q : x < 1
  · rw [if_pos q]
    have := Int32.lt_iff_toInt_lt.mp q
    have h1 : (1 : Int32).toInt = 1 := rfl
    exact ⟨fun z => absurd z (by decide), fun z => by omega⟩
  · rw [if_neg q]
    have h1 : (1 : Int32).toInt = 1 := rfl
    have h9 : (99 : Int32).toInt = 99 := rfl
    have q1 : ¬ x.toInt < (1 : Int32).toInt := fun z => q (Int32.lt_iff_toInt_lt.mpr z)
    by_cases q2 : (99 : Int32) < x
    · rw [if_pos q2]
      have := Int32.lt_iff_toInt_lt.mp q2
      exact ⟨fun z => absurd z (by decide), fun z => by omega⟩
    · rw [if_neg q2]
      have : ¬ (99 : Int32).toInt < x.toInt := fun z => q2 (Int32.lt_iff_toInt_lt.mpr z)
      exact ⟨fun _ => by omega, fun _ => rfl⟩
theorem days_n {x : Int32} (h : f_X12_in x.toInt64 1 99 = true) : ∃ d, x = nI d ∧ 1 ≤ d ∧ d ≤ 99 := by
  rw [in_iff, Int64.le_iff_toInt_le, Int64.le_iff_toInt_le, Int32.toInt_toInt64, show (1 : Int64).toInt = 1 from rfl, show (99 : Int64).toInt = 99 from rfl] at h
  refine ⟨x.toInt.toNat, Int32.toInt_inj.mp ?_, by omega, by omega⟩
  rw [nI_toInt (by omega)]
  omega
section PB
variable {N P B Q : Nat} {day votes isOpen baskets lays recs fneed clos pastN logN : Int32} {boatO seaO faultO daysO backB sailB plc car bnd bsk dyL rsn pastF logF mW : Nat → Int32}
variable {nums bNames pNames fBoats : Nat → Int32} {nB nP mPpl mBts : Int32} {mNum mNam mFst mBnm : Nat → Int32}
theorem eq_person (h : RSt N P B Q day votes isOpen baskets lays recs fneed clos boatO seaO faultO daysO backB sailB plc car bnd bsk dyL rsn pastF pastN logF logN mW) (hs : RSu P B Q nums bNames pNames fBoats nB nP mPpl mBts mNum mNam mFst mBnm) (x y : Int32) : f_X11_person nP day boatO seaO faultO daysO backB plc car x y = f_X12_person mPpl mW x y := by
  have hP := su_P hs
  have hB := hs.2.2.2.2.2.1
  unfold f_X11_person f_X12_person
  rw [eq_isPerson hs]
  cases c : f_X12_isPerson mPpl x
  · rfl
  obtain ⟨i, rfl, hi⟩ := person_n hs c
  have p2 : f_X10_homeDayOf day boatO seaO backB (nI i) = bif f_X12_isAtSea mW (nI i) then f_X12_ofBoat mW (f_X12_of mW (nI i) 1) 1 else mW 0 := by
    unfold f_X10_homeDayOf
    rw [eq_sea h hP hi, rs_day h]
    cases q : f_X12_isAtSea mW (nI i)
    · rfl
    · rw [m_sea (by omega)] at q
      rw [x_boatO (by omega), of_1 (by omega)]
      rcases (h.2.1 i hi).2.1 with ⟨-, h2⟩ | ⟨h1, h2, h3, h4⟩
      · rw [h2] at q
        exact absurd q (by decide)
      · obtain ⟨e, hb⟩ := vin_nI h3
        rw [h2, e, x_backB (by omega), ofB_1 (by omega)]
        rcases (h.2.2.2.1 _ hb).1 with ⟨-, z⟩ | ⟨-, z, -⟩
        · exact absurd z h4
        · exact z.symm
  have p4 : f_J6_bitCount_0f7a4 (f_X9_carriedBy plc car (nI i)) = f_X12_ones (f_X12_carriedBy mPpl mW (nI i)) := by
    rw [hs.2.1, ← eq_carried h hP, x_carried, bitc_msk _ (by decide), ones_msk _ (by decide)]
  rw [p2, p4, eq_laidFor h hP hi, eq_sea h hP hi, x_boatO (by omega), x_faultO (by omega), x_daysO (by omega), of_0 (by omega), of_2 (by omega), of_3 (by omega), of_4 (by omega)]
  have e0 := rs_boatO h hi
  have e2 := rs_faultO h hi
  have e3 := rs_daysO h hi
  rw [← e0, ← e2, ← e3]
  rfl
theorem eq_boat (h : RSt N P B Q day votes isOpen baskets lays recs fneed clos boatO seaO faultO daysO backB sailB plc car bnd bsk dyL rsn pastF pastN logF logN mW) (hs : RSu P B Q nums bNames pNames fBoats nB nP mPpl mBts mNum mNam mFst mBnm) (x y : Int32) : f_X11_boat nB day boatO seaO backB sailB x y = f_X12_boat mPpl mBts mW x y := by
  have hP := su_P hs
  have hB := hs.2.2.2.2.2.1
  unfold f_X11_boat f_X12_boat
  rw [eq_isBoat hs]
  cases c : f_X12_isBoat mBts x
  · rfl
  obtain ⟨i, rfl, hi⟩ := boat_n hs c
  have p0 : (bif f_X12_isOut mW (nI i) then (1 : Int32) else 0) = f_X12_ofBoat mW (nI i) 0 := by
    rw [m_out (by omega), ofB_0 (by omega)]
    rcases (h.2.2.2.1 i hi).1 with ⟨h1, -⟩ | ⟨h1, -⟩
    · rw [show mW (229 + 3 * i + 0) = 0 from h1, h1]
      rfl
    · rw [show mW (229 + 3 * i + 0) = 1 from h1, h1]
      rfl
  have p1 : (bif f_X12_isOut mW (nI i) then backB i else day) = bif f_X12_isOut mW (nI i) then f_X12_ofBoat mW (nI i) 1 else mW 0 := by
    rw [m_out (by omega), ofB_1 (by omega), rs_day h]
    rcases (h.2.2.2.1 i hi).1 with ⟨h1, -⟩ | ⟨h1, h2, -⟩
    · rw [h1]
      rfl
    · rw [h1, h2]
  have p2 : f_X2_aboard boatO seaO (nI i) = f_X12_manyOf mPpl mW 1 (nI i) := by
    have a1 : f_X2_aboard boatO seaO (nI i) = nI (cntB (fun o => decide (boatO o = nI i) && !(seaO o == 0)) 20) := iter_cnt (N := 20) (fun n s hn => by
      rw [x_boatO hn, x_sea hn]
      by_cases q : boatO n = nI i
      · rw [if_pos q, decide_eq_true q]
        rfl
      · rw [if_neg q, decide_eq_false q]
        rfl) 20 (Nat.le_refl _)
    have a2 : f_X12_manyOf mPpl mW 1 (nI i) = nI (cntB (fun o => decide (mW (9 + 11 * o + 1) = nI i)) P) := by
      unfold f_X12_manyOf
      rw [hs.2.1, nI_clamp (by omega)]
      exact iter_cnt (N := P) (fun n s hn => by rw [of_1 (by omega), Int32.add_zero, ite1]) P (Nat.le_refl _)
    rw [a1, a2, cntB_ext _ hP (fun o h1 h2 => by rw [rs_sea_no h h1 h2]; exact Bool.and_false _)]
    refine congrArg nI (cntB_cong (fun o ho => ?_))
    rcases (h.2.1 o ho).2.1 with ⟨h1, h2⟩ | ⟨h1, h2, -⟩
    · rw [h1, h2]
      show (_ && false) = _
      rw [Bool.and_false]
      exact (decide_eq_false (fun z => by
        have := nI_pos (n := i) (by omega)
        rw [← z] at this
        exact this (by decide))).symm
    · rw [h2, beq_false_of_ne h1]
      exact Bool.and_true _
  have p3 : f_X2_belongingTo boatO (nI i) = f_X12_manyOf mPpl mW 0 (nI i) := by
    have a1 : f_X2_belongingTo boatO (nI i) = nI (cntB (fun o => decide (boatO o = nI i)) 20) := iter_cnt (N := 20) (fun n s hn => by rw [x_boatO hn, ite1]) 20 (Nat.le_refl _)
    have a2 : f_X12_manyOf mPpl mW 0 (nI i) = nI (cntB (fun o => decide (mW (9 + 11 * o + 0) = nI i)) P) := by
      unfold f_X12_manyOf
      rw [hs.2.1, nI_clamp (by omega)]
      exact iter_cnt (N := P) (fun n s hn => by rw [of_0 (by omega), Int32.add_zero, ite1]) P (Nat.le_refl _)
    rw [a1, a2, cntB_ext _ hP (fun o h1 h2 => by
      rw [(rs_out h h1 h2).1]
      exact decide_eq_false (fun z => by
        have := nI_pos (n := i) (by omega)
        rw [← z] at this
        exact this (by decide)))]
    exact congrArg nI (cntB_cong (fun o ho => by rw [show mW (9 + 11 * o + 0) = boatO o from rs_boatO h ho]))
  have p4 : sailB i = f_X12_ofBoat mW (nI i) 2 := by
    rw [ofB_2 (by omega)]
    exact (h.2.2.2.1 i hi).2.1.symm
  rw [eq_out h hB hi, p2, p3, x_backB (by omega), x_sailB (by omega), p1, p0, p4]
theorem eq_boatsOn (h : RSt N P B Q day votes isOpen baskets lays recs fneed clos boatO seaO faultO daysO backB sailB plc car bnd bsk dyL rsn pastF pastN logF logN mW) (hB : B ≤ 6) (d : Int32) : f_X2_boatsOutOn backB d = f_X12_outOn (nI B) mW d := by
  have h1 : f_X2_boatsOutOn backB d = nI (cntB (fun o => !(backB o == 0) && !decide (backB o ≤ d)) 6) := iter_cnt (N := 6) (fun n s hn => by
    rw [x_out hn, x_backB hn]
    cases (backB n == 0)
    · by_cases q : backB n ≤ d
      · rw [if_pos q, decide_eq_true q]
        rfl
      · rw [if_neg q, decide_eq_false q]
        rfl
    · rfl) 6 (Nat.le_refl _)
  have h2 : f_X12_outOn (nI B) mW d = nI (cntB (fun o => !(backB o == 0) && !decide (backB o ≤ d)) B) := by
    unfold f_X12_outOn
    rw [nI_clamp (by omega)]
    refine iter_cnt (N := B) (fun n s hn => ?_) B (Nat.le_refl _)
    rw [← eq_out h hB hn, x_out (by omega), ofB_1 (by omega), Int32.add_zero]
    rcases (h.2.2.2.1 n hn).1 with ⟨-, q⟩ | ⟨-, q1, -⟩
    · rw [q]; rfl
    · rw [q1]
      cases (backB n == 0)
      · by_cases q : backB n ≤ d
        · rw [if_pos q, decide_eq_true q]
          rfl
        · rw [if_neg q, decide_eq_false q]
          rfl
      · rfl
  rw [h1, h2, cntB_ext _ hB (fun o h1 h2 => by rw [h.2.2.2.2.1 o h1 h2]; rfl)]
theorem eq_needBehind (h : RSt N P B Q day votes isOpen baskets lays recs fneed clos boatO seaO faultO daysO backB sailB plc car bnd bsk dyL rsn pastF pastN logF logN mW) (hs : RSu P B Q nums bNames pNames fBoats nB nP mPpl mBts mNum mNam mFst mBnm) (hN : N ≤ 600) {d : Nat} (hd : d ≤ 999) : f_X10_needBehind nums nP day backB (nI d) = f_X12_needIn0 mPpl mBts mNum mW (nI d) := by
  obtain ⟨n, e, hn⟩ := rs_day_n h
  have hn2 : n ≤ 59400 := Nat.le_trans hn (Nat.mul_le_mul_left 99 hN)
  unfold f_X10_needBehind f_X12_needIn0
  rw [rs_day h, eq_boatsOn h hs.2.2.2.2.2.1, ← hs.2.2.2.1]
  generalize f_X12_outOn mBts mW (day + nI d) = k
  rw [e, nI_add]
  exact eq_needOf hs (by omega) k
theorem eq_needIn (h : RSt N P B Q day votes isOpen baskets lays recs fneed clos boatO seaO faultO daysO backB sailB plc car bnd bsk dyL rsn pastF pastN logF logN mW) (hs : RSu P B Q nums bNames pNames fBoats nB nP mPpl mBts mNum mNam mFst mBnm) (hN : N ≤ 600) (x : Int32) : f_X11_needIn nums nP day backB x = f_X12_needIn mPpl mBts mNum mW x := by
  unfold f_X11_needIn f_X12_needIn
  have e : f_X12_in x.toInt64 0 999 = f_X11_isIn x 1000 := bool_eq ((show _ ↔ vp_in x 1000 from (by
    rw [in_iff, Int64.le_iff_toInt_le, Int64.le_iff_toInt_le, Int32.toInt_toInt64, show (0 : Int64).toInt = 0 from rfl, show (999 : Int64).toInt = 999 from rfl, vp_in_iff]
    omega)).trans (isIn_eq (n := 1000) (by decide)).symm)
  rw [e]
  unfold f_X11_isIn
  by_cases q : x < 0
  · rw [if_pos q, if_pos q]
    rfl
  · rw [if_neg q, if_neg q]
    by_cases q2 : x ≤ 999
    · have hv := vin_of (n := 1000) (by decide) q (fun z => by
        have a := Int32.le_iff_toInt_le.mp z
        have b := Int32.le_iff_toInt_le.mp q2
        have c1 : (nI 1000).toInt = 1000 := rfl
        have c2 : (999 : Int32).toInt = 999 := rfl
        omega)
      obtain ⟨e2, h2⟩ := vin_nI hv
      have q3 : ¬ (1000 : Int32) ≤ x := fun z => by
        have a := Int32.le_iff_toInt_le.mp z
        have b := Int32.le_iff_toInt_le.mp q2
        have c1 : (1000 : Int32).toInt = 1000 := rfl
        have c2 : (999 : Int32).toInt = 999 := rfl
        omega
      rw [if_pos q2, if_neg q3, e2]
      exact eq_needBehind h hs hN (by omega)
    · have q3 : (1000 : Int32) ≤ x := Int32.le_iff_toInt_le.mpr (by
        have b : ¬ x.toInt ≤ (999 : Int32).toInt := fun z => q2 (Int32.le_iff_toInt_le.mpr z)
        have c1 : (1000 : Int32).toInt = 1000 := rfl
        have c2 : (999 : Int32).toInt = 999 := rfl
        omega)
      rw [if_neg q2, if_pos q3]
      rfl
theorem eq_surplus (h : RSt N P B Q day votes isOpen baskets lays recs fneed clos boatO seaO faultO daysO backB sailB plc car bnd bsk dyL rsn pastF pastN logF logN mW) (hs : RSu P B Q nums bNames pNames fBoats nB nP mPpl mBts mNum mNam mFst mBnm) (hN : N ≤ 600) {d : Nat} (hd : d ≤ 999) : f_X10_surplusBehind nums nP day boatO seaO backB (nI d) = f_X12_ashoreOn mPpl mW (mW 0 + nI d) - f_X12_needIn0 mPpl mBts mNum mW (nI d) := by
  have hP := su_P hs
  unfold f_X10_surplusBehind
  rw [eq_needBehind h hs hN hd, rs_day h]
  generalize day + nI d = t
  have a1 : f_X2_peopleAtSeaOn boatO seaO backB t = nI (cntB (fun o => !(seaO o == 0) && !decide (f_X2_backOf backB (boatO o) ≤ t)) 20) := iter_cnt (N := 20) (fun n s hn => by
    rw [x_boatO hn, x_sea hn]
    cases (seaO n == 0)
    · by_cases q : f_X2_backOf backB (boatO n) ≤ t
      · rw [if_pos q, decide_eq_true q]
        rfl
      · rw [if_neg q, decide_eq_false q]
        rfl
    · rfl) 20 (Nat.le_refl _)
  have a2 : f_X12_ashoreOn mPpl mW t = nI (cntB (fun o => !(!(seaO o == 0) && !decide (f_X2_backOf backB (boatO o) ≤ t))) P) := by
    unfold f_X12_ashoreOn
    rw [hs.2.1, nI_clamp (by omega)]
    refine iter_cnt (N := P) (fun n s hn => ?_) P (Nat.le_refl _)
    rw [← eq_sea h hP hn, x_sea (by omega), of_1 (by omega), Int32.add_zero]
    rcases (h.2.1 n hn).2.1 with ⟨h1, -⟩ | ⟨h1, h2, h3, h4⟩
    · rw [h1]
      rfl
    · obtain ⟨e, hb⟩ := vin_nI h3
      have hB := hs.2.2.2.2.2.1
      have e4 : mW (229 + 3 * (boatO n).toNatClampNeg + 1) = backB (boatO n).toNatClampNeg := by
        rcases (h.2.2.2.1 _ hb).1 with ⟨-, z⟩ | ⟨-, z, -⟩
        · exact absurd z h4
        · exact z
      have e5 : f_X2_backOf backB (boatO n) = f_X12_ofBoat mW (boatO n) 1 := by
        rw [e, x_backB (by omega), ofB_1 (by omega)]
        exact e4.symm
      rw [h2, beq_false_of_ne h1, e5]
      by_cases q : f_X12_ofBoat mW (boatO n) 1 ≤ t
      · rw [if_pos q, decide_eq_true q]
        rfl
      · rw [if_neg q, decide_eq_false q]
        rfl
  have a3 := cntB_not (fun o => !(seaO o == 0) && !decide (f_X2_backOf backB (boatO o) ≤ t)) P
  rw [a1, a2, cntB_ext _ hP (fun o h1 h2 => by rw [rs_sea_no h h1 h2]; rfl), show f_X7_people nP = nI P from hs.1, pk_sub (by omega)]
  rw [show P - cntB (fun o => !(seaO o == 0) && !decide (f_X2_backOf backB (boatO o) ≤ t)) P = cntB (fun o => !(!(seaO o == 0) && !decide (f_X2_backOf backB (boatO o) ≤ t))) P by omega]
theorem eq_bestDay (h : RSt N P B Q day votes isOpen baskets lays recs fneed clos boatO seaO faultO daysO backB sailB plc car bnd bsk dyL rsn pastF pastN logF logN mW) (hs : RSu P B Q nums bNames pNames fBoats nB nP mPpl mBts mNum mNam mFst mBnm) (hN : N ≤ 600) (x : Int32) : f_X11_bestDay nums nP day boatO seaO backB x = f_X12_bestDay mPpl mBts mNum mW x := by
  unfold f_X11_bestDay f_X12_bestDay
  rw [isDays_eq]
  cases c : f_X12_in x.toInt64 1 99
  · rfl
  obtain ⟨d, rfl, h1, h2⟩ := days_n c
  show f_X10_bestDayUpTo nums nP day boatO seaO backB (nI d) = _
  have key : ∀ n, n ≤ 99 → L_X10_bestDayUpTo_11 nums nP day boatO seaO backB n = L_X12_bestDay_21 mPpl mBts mNum mW (n + 1) := by
    intro n
    induction n with
    | zero =>
      intro _
      refine (iter_z _ _).trans ?_
      refine Eq.trans ?_ ((iter_s _ _ 0).symm)
      rw [if_pos (show nI 0 = 0 from rfl)]
      exact congrArg (fun z => (z, (0 : Int32))) (eq_surplus h hs hN (d := 0) (by decide))
    | succ n ih =>
      intro hn
      refine (iter_s _ _ n).trans ?_
      refine Eq.trans ?_ ((iter_s _ _ (n + 1)).symm)
      show (if f_X10_surplusBehind nums nP day boatO seaO backB (nI (n + 1)) ≤ (L_X10_bestDayUpTo_11 nums nP day boatO seaO backB n).1 then ((L_X10_bestDayUpTo_11 nums nP day boatO seaO backB n).1, (L_X10_bestDayUpTo_11 nums nP day boatO seaO backB n).2) else (f_X10_surplusBehind nums nP day boatO seaO backB (nI (n + 1)), nI (n + 1))) = if nI (n + 1) = 0 then _ else if f_X12_ashoreOn mPpl mW (mW 0 + nI (n + 1)) - f_X12_needIn0 mPpl mBts mNum mW (nI (n + 1)) ≤ (L_X12_bestDay_21 mPpl mBts mNum mW (n + 1)).1 then ((L_X12_bestDay_21 mPpl mBts mNum mW (n + 1)).1, (L_X12_bestDay_21 mPpl mBts mNum mW (n + 1)).2) else (f_X12_ashoreOn mPpl mW (mW 0 + nI (n + 1)) - f_X12_needIn0 mPpl mBts mNum mW (nI (n + 1)), nI (n + 1))
      rw [if_neg (nI_ne0 (by omega) (by omega)), ih (by omega), eq_surplus h hs hN (d := n + 1) (by omega)]
  unfold f_X10_bestDayUpTo
  rw [nI_clamp (by omega), Nat.min_eq_left h2, key d h2]
  rfl
theorem part_N {r : Nat} {f : Nat → Int32} {a v : Nat} (hr : 1 ≤ r) (hr2 : r < 1000) (ha : a < 2 ^ 30) (hv : v < a) (hv2 : a ≤ v + r) {y : Int32} (hy : vp_in y 4) : f_X5_part r f (nI a) (nI v) y = f (4 * (v % r) + y.toNatClampNeg) := by
  obtain ⟨ey, hy2⟩ := vin_nI hy
  have hold : f_X5_oldest r (nI a) = nI (a - r) := by
    unfold f_X5_oldest
    by_cases q : a < r
    · rw [if_pos (pk_sneg (by omega) q), show a - r = 0 by omega]
      rfl
    · rw [pk_sub (by omega), if_neg (nI_pos (by omega))]
  have hhas : f_X5_has r (nI a) (nI v) = true := by
    unfold f_X5_has
    rw [hold, if_neg (nI_nlt (by omega) (by omega)), if_neg (nI_ge hv (by omega))]
  have hpl : f_X5_placeOf r (nI v) = nI (4 * (v % r)) := by
    unfold f_X5_placeOf
    rw [if_pos (show (1 : Int32) ≤ nI r from nI_le (a := 1) hr (by omega)), floorMod_nI (by omega) (by omega) (by omega), show (4 : Int32) = nI 4 from rfl, pk_mul, Nat.mul_comm]
  have hm : v % r < r := Nat.mod_lt _ (by omega)
  unfold f_X5_part
  rw [hhas, show f_X11_isIn y 4 = true from (isIn_eq (n := 4) (by decide)).mpr hy, hpl]
  generalize y.toNatClampNeg = c at ey hy2
  rw [ey, nI_add]
  exact cell_nI (by omega) (by omega)
theorem part_no {r : Nat} {f : Nat → Int32} {a : Nat} {x : Int32} (ha : a < 2 ^ 30) (hr : r < 1000) (hx : x.toInt < (a : Int) - r ∨ x.toInt < 0 ∨ (a : Int) ≤ x.toInt) (y : Int32) : f_X5_part r f (nI a) x y = -2 := by
  have hold : (f_X5_oldest r (nI a)).toInt = max ((a : Int) - r) 0 := by
    unfold f_X5_oldest
    by_cases q : a < r
    · rw [if_pos (pk_sneg (by omega) q)]
      have : (0 : Int32).toInt = 0 := rfl
      omega
    · rw [pk_sub (by omega), if_neg (nI_pos (by omega)), nI_toInt (by omega)]
      omega
  have hhas : f_X5_has r (nI a) x = false := by
    unfold f_X5_has
    by_cases q : x < f_X5_oldest r (nI a)
    · rw [if_pos q]
    · rw [if_neg q, if_pos]
      have q2 : ¬ x.toInt < (f_X5_oldest r (nI a)).toInt := fun z => q (Int32.lt_iff_toInt_lt.mpr z)
      rw [Int32.le_iff_toInt_le, nI_toInt (by omega)]
      omega
  unfold f_X5_part
  rw [hhas]
  rfl
theorem eq_log (h : RSt N P B Q day votes isOpen baskets lays recs fneed clos boatO seaO faultO daysO backB sailB plc car bnd bsk dyL rsn pastF pastN logF logN mW) (hN : N ≤ 600) (x y : Int32) : f_X11_log logF logN x y = f_X12_log mW x y := by
  have hz := eq_size h hN
  obtain ⟨a, e1, e2, e3, e4⟩ := h.2.2.2.2.2.2
  unfold f_X11_log f_X12_log
  rw [hz]
  by_cases q : x < 0
  · rw [if_pos q, if_pos q]
  rw [if_neg q, if_neg q]
  have ei : f_X12_in y.toInt64 0 3 = f_X11_isIn y 4 := inL_P (n := 4) (by decide)
  rw [ei]
  cases c : f_X11_isIn y 4
  · exact (rfl : (-1 : Int32) = -1)
  have hy : vp_in y 4 := (isIn_eq (n := 4) (by decide)).mp c
  obtain ⟨ey, hy2⟩ := vin_nI hy
  obtain ⟨i, hi, rfl⟩ := nI_of q
  have hmin := Nat.min_le_right a 30
  show (if nI i < mW 8 then _ else _) = (if mW 8 ≤ nI i then _ else _)
  rw [e3]
  by_cases z : i < min a 30
  · rw [if_pos ((nI_ltI (by omega) (by omega)).mpr z), if_neg (nI_ge z (by omega))]
    have hold : f_X5_oldest 30 logN + nI i = nI (a - min a 30 + i) := by
      unfold f_X5_oldest
      rw [e1]
      by_cases w : a < 30
      · rw [if_pos (pk_sneg (by omega) w), show a - min a 30 + i = 0 + i by omega]
        exact nI_add 0 i
      · rw [pk_sub (by omega), if_neg (nI_pos (by omega)), nI_add, show a - min a 30 = a - 30 by omega]
    rw [hold, e1, part_N (by decide) (by decide) (by omega) (by omega) (by omega) hy]
    have := (e4 i y.toNatClampNeg z hy2).1
    rw [← this]
    refine congrArg mW ?_
    generalize y.toNatClampNeg = c at ey hy2
    rw [ey, show (279 : Int32) = nI 279 from rfl, show (4 : Int32) = nI 4 from rfl, pk_mul, nI_add, nI_add, nI_clamp (by omega)]
  · rw [if_neg (fun w => z ((nI_ltI (by omega) (by omega)).mp w)), if_pos (nI_le (by omega) (by omega))]
theorem eq_past (h : RSt N P B Q day votes isOpen baskets lays recs fneed clos boatO seaO faultO daysO backB sailB plc car bnd bsk dyL rsn pastF pastN logF logN mW) (hN : N ≤ 600) (x y : Int32) : f_X11_past pastF pastN x y = f_X12_past mW x y := by
  obtain ⟨a, v, e1, e2, e3, -, e4⟩ := h.2.2.2.2.2.1
  have hv : v ≤ N := by
    have := h.1.2.1.2
    rw [e2.1] at this
    have h2 := (vp_in_iff.mp this)
    rw [nI_toInt (by omega)] at h2
    omega
  have hcl : mW 1 - mW 2 = nI a := by
    rw [rs_votes h, h.1.2.2.1.1, e2.1, e3]
    cases tb isOpen
    · exact Int32.sub_zero _
    · exact (nI_succ a) ▸ Int32.add_sub_cancel _ _
  unfold f_X11_past f_X12_past
  by_cases q : x < 0
  · rw [if_pos q, if_pos q]
  rw [if_neg q, if_neg q]
  have ei : f_X12_in y.toInt64 0 3 = f_X11_isIn y 4 := inL_P (n := 4) (by decide)
  rw [ei]
  cases c : f_X11_isIn y 4
  · exact (rfl : (-1 : Int32) = -1)
  have hy : vp_in y 4 := (isIn_eq (n := 4) (by decide)).mp c
  obtain ⟨ey, hy2⟩ := vin_nI hy
  obtain ⟨i, hi, rfl⟩ := nI_of q
  have ha : a ≤ v := by omega
  show f_X5_part 8 pastF pastN (nI i) y = bif f_X12_in _ _ _ then _ else _
  rw [hcl, e1]
  have s8 : (nI a - 8).toInt = (a : Int) - 8 := pk_sub_toInt (b := 8) (by omega) (by decide)
  have s1 : (nI a - 1).toInt = (a : Int) - 1 := pk_sub_toInt (b := 1) (by omega) (by decide)
  have hin : f_X12_in (nI i).toInt64 (nI a - 8).toInt64 (nI a - 1).toInt64 = true ↔ (a ≤ i + 8 ∧ i < a) := by
    rw [in_iff, Int64.le_iff_toInt_le, Int64.le_iff_toInt_le, Int32.toInt_toInt64, Int32.toInt_toInt64, Int32.toInt_toInt64, s8, s1, nI_toInt hi]
    omega
  by_cases z : a ≤ i + 8 ∧ i < a
  · rw [hin.mpr z, part_N (by decide) (by decide) (by omega) z.2 z.1 hy, ← e4 i _ z.2 z.1 hy2]
    refine congrArg mW ?_
    have hm : i % 8 < 8 := Nat.mod_lt _ (by decide)
    generalize y.toNatClampNeg = c at ey hy2
    rw [ey, show (8 : Int32) = nI 8 from rfl, pk_rem hi (by decide) (by decide), show (247 : Int32) = nI 247 from rfl, show (4 : Int32) = nI 4 from rfl, pk_mul, nI_add, nI_add, nI_clamp (by omega)]
  · have hf : f_X12_in (nI i).toInt64 (nI a - 8).toInt64 (nI a - 1).toInt64 = false := by
      cases w : f_X12_in (nI i).toInt64 (nI a - 8).toInt64 (nI a - 1).toInt64
      · rfl
      · exact absurd (hin.mp w) z
    rw [hf, part_no (by omega) (by decide) (by rw [nI_toInt hi]; omega)]
    rfl
end PB
