theorem sel2 {α : Type} {a : Prop} [Decidable a] {b : Bool} (h : a ∨ b = true) (E R : α) : (if a then E else bif b then E else R) = E := by
  by_cases q : a
  · rw [if_pos q]
  · rcases h with z | z
    · exact absurd z q
    · rw [if_neg q, z]
      rfl
theorem sel0 {α : Type} {a : Prop} [Decidable a] {b : Bool} (h : ¬ (a ∨ b = true)) (E F R : α) : (if a then E else bif b then F else R) = R := by
  by_cases q : a
  · exact absurd (Or.inl q) h
  · cases z : b
    · rw [if_neg q]
      rfl
    · exact absurd (Or.inr z) h
section O2
variable {N M P B Q A : Nat} {day votes isOpen baskets lays recs fneed clos pastN logN : Int32} {boatO seaO faultO daysO backB sailB plc car bnd bsk dyL rsn pastF logF mW mW2 : Nat → Int32}
variable {nums bNames pNames fBoats : Nat → Int32} {nB nP mPpl mBts : Int32} {mNum mNam mFst mBnm : Nat → Int32}
variable {hsN hsX mUs : Int32} {hsF : Nat → StT} {mUn : Nat → Int32}
theorem rs_outN (h : RSt N P B Q day votes isOpen baskets lays recs fneed clos boatO seaO faultO daysO backB sailB plc car bnd bsk dyL rsn pastF pastN logF logN mW) (hB : B ≤ 6) {i : Nat} (hi : i < B) (c : f_X12_isOut mW (nI i) = true) : ¬ backB i = 0 ∧ mW (229 + 3 * i) = 1 ∧ mW (229 + 3 * i + 1) = backB i ∧ vp_in (backB i) (198 * N + 1) ∧ day < backB i := by
  rw [← eq_out h hB hi, x_out (by omega)] at c
  have hz : ¬ backB i = 0 := fun q => by
    rw [q] at c
    exact absurd c (by decide)
  rcases (h.2.2.2.1 i hi).1 with ⟨-, z⟩ | ⟨z1, z2, z3, z4⟩
  · exact absurd z hz
  · exact ⟨hz, z1, z2, z3, z4⟩
theorem st_delay (h : RSt N P B Q day votes isOpen baskets lays recs fneed clos boatO seaO faultO daysO backB sailB plc car bnd bsk dyL rsn pastF pastN logF logN mW) (hs : RSu P B Q nums bNames pNames fBoats nB nP mPpl mBts mNum mNam mFst mBnm) (hh : RHi N P B Q hsN hsX hsF mUs mUn) (hN : N ≤ 600) (x y : Int32) : (f_X11_delay nB day votes isOpen baskets lays recs fneed clos boatO seaO faultO daysO backB sailB plc car bnd bsk dyL rsn pastF pastN logF logN hsN hsX hsF x y).1 = (f_X12_delay mBts mUs mW mUn x y).1 ∧ RSt (N + 1) P B Q day votes isOpen baskets lays recs fneed clos boatO seaO faultO daysO ((f_X11_delay nB day votes isOpen baskets lays recs fneed clos boatO seaO faultO daysO backB sailB plc car bnd bsk dyL rsn pastF pastN logF logN hsN hsX hsF x y).2.1) sailB plc car bnd bsk dyL rsn pastF pastN logF logN ((f_X12_delay mBts mUs mW mUn x y).2.2.2) ∧ RHi (N + 1) P B Q ((f_X11_delay nB day votes isOpen baskets lays recs fneed clos boatO seaO faultO daysO backB sailB plc car bnd bsk dyL rsn pastF pastN logF logN hsN hsX hsF x y).2.2.2.1) ((f_X11_delay nB day votes isOpen baskets lays recs fneed clos boatO seaO faultO daysO backB sailB plc car bnd bsk dyL rsn pastF pastN logF logN hsN hsX hsF x y).2.2.2.2) ((f_X11_delay nB day votes isOpen baskets lays recs fneed clos boatO seaO faultO daysO backB sailB plc car bnd bsk dyL rsn pastF pastN logF logN hsN hsX hsF x y).2.2.1) ((f_X12_delay mBts mUs mW mUn x y).2.2.1) ((f_X12_delay mBts mUs mW mUn x y).2.1) := by
  have hP := su_P hs
  have hB := hs.2.2.2.2.2.1
  unfold f_X11_delay f_X12_delay S_X11_delay_42 S_X11_delay_54
  rw [eq_isBoat hs, isDays_eq]
  cases c1 : f_X12_isBoat mBts x
  · simp only [cond_false]
    exact ⟨trivial, h.mono (Nat.le_succ N) hP hB, hh.mono (Nat.le_succ N) hP hB⟩
  cases c2 : f_X12_in y.toInt64 1 99
  · simp only [cond_true, cond_false]
    exact ⟨trivial, h.mono (Nat.le_succ N) hP hB, hh.mono (Nat.le_succ N) hP hB⟩
  obtain ⟨i, rfl, hi⟩ := boat_n hs c1
  obtain ⟨d, rfl, hd1, hd2⟩ := days_n c2
  rw [eq_out h hB hi]
  cases c3 : f_X12_isOut mW (nI i)
  · simp only [cond_true, cond_false]
    exact ⟨trivial, h.mono (Nat.le_succ N) hP hB, hh.mono (Nat.le_succ N) hP hB⟩
  · simp only [cond_true]
    obtain ⟨hz, z1, z2, z3, z4⟩ := rs_outN h hB hi c3
    obtain ⟨e, hb⟩ := vin_nI z3
    obtain ⟨n, en, hn⟩ := rs_day_n h
    have e1 : f_X2_moveBack backB (nI i) (nI d) = upd backB i (backB i + nI d) := by
      unfold f_X2_moveBack
      rw [x_backB (by omega), setCell_nI (by decide) (by omega)]
    have e2 : f_X12_setsBoat mW (nI i) 1 (f_X12_ofBoat mW (nI i) 1 + nI d) = upd mW (229 + 3 * i + 1) (backB i + nI d) := by
      rw [ofB_1 (by omega), z2]
      exact setsB_N (c := 1) (by omega) (by decide)
    rw [e1, e2, x_backB (by omega), ofB_1 (by omega), upd_eq, upd_eq]
    have hnz : ¬ backB i + nI d = 0 := by
      rw [e, nI_add]
      exact nI_ne0 (by omega) (by omega)
    have hrem := ((hh.rem (t := (day, votes, isOpen, baskets, lays, recs, fneed, clos, boatO, seaO, faultO, daysO, backB, sailB, plc, car, bnd, bsk, dyL, rsn, pastF, pastN, logF, logN)) h hP hB).mono (Nat.le_succ N) hP hB)
    refine ⟨rfl, ?_, hrem⟩
    have hoth : ∀ j, j ≠ 229 + 3 * i + 1 → upd mW (229 + 3 * i + 1) (backB i + nI d) j = mW j := fun j hj => upd_ne hj
    refine RSx.st ?_ (h.l.cong (by omega) (hoth 8 (by omega)) (fun j h1 h2 => hoth j (by omega)))
    refine ⟨h.1.congm (fun j hj => hoth j (by omega)) (Nat.le_succ N), fun p hp => ?_, fun p hp hp2 => (h.2.2.1 p hp hp2).congm (fun c hc => hoth _ (by omega)), fun b hb => ?_, fun b hb hb6 => ?_, h.2.2.2.2.2.1.congm (fun j h1 h2 => hoth j (by omega))⟩
    · refine (h.2.1 p hp).cong rfl rfl rfl rfl rfl rfl rfl rfl rfl rfl rfl (fun _ q => ?_) (fun q => q) (fun c hc => hoth _ (by omega)) (Nat.le_succ N)
      by_cases w : (boatO p).toNatClampNeg = i
      · rw [w, upd_eq]
        exact hnz
      · rw [upd_ne w]
        exact q
    · have rb := h.2.2.2.1 b hb
      by_cases q : b = i
      · subst q
        have hlt : day < backB b + nI d := by
          rw [e, en] at z4
          rw [e, en, nI_add]
          have := (nI_ltI (by omega) (by omega)).mp z4
          exact nI_lt (by omega) (by omega)
        refine ⟨Or.inr ⟨?_, ?_, ?_, ?_⟩, ?_, ?_⟩
        · rw [hoth _ (by omega)]
          exact z1
        · rw [upd_eq, upd_eq]
        · rw [upd_eq, e, nI_add]
          exact vp_in_nI (by omega) (by omega)
        · rw [upd_eq]
          exact hlt
        · rw [hoth _ (by omega)]
          exact rb.2.1
        · exact vin_w rb.2.2 (by omega)
      · unfold RBo
        rw [upd_ne q, hoth _ (by omega), hoth _ (by omega), hoth _ (by omega)]
        refine ⟨?_, rb.2.1, vin_w rb.2.2 (by omega)⟩
        rcases rb.1 with z | ⟨z1, z2, z3, z4⟩
        · exact Or.inl z
        · exact Or.inr ⟨z1, z2, vin_w z3 (by omega), z4⟩
    · rw [upd_ne (by omega)]
      exact h.2.2.2.2.1 b hb hb6
theorem st_comeHome (h : RSt N P B Q day votes isOpen baskets lays recs fneed clos boatO seaO faultO daysO backB sailB plc car bnd bsk dyL rsn pastF pastN logF logN mW) (hs : RSu P B Q nums bNames pNames fBoats nB nP mPpl mBts mNum mNam mFst mBnm) (hh : RHi N P B Q hsN hsX hsF mUs mUn) (hN : N ≤ 600) (x : Int32) : (f_X11_comeHome nB day votes isOpen baskets lays recs fneed clos boatO seaO faultO daysO backB sailB plc car bnd bsk dyL rsn pastF pastN logF logN hsN hsX hsF x).1 = (f_X12_comeHome mPpl mBts mUs mW mUn x).1 ∧ RSt (N + 1) P B Q day votes isOpen baskets lays recs fneed clos boatO ((f_X11_comeHome nB day votes isOpen baskets lays recs fneed clos boatO seaO faultO daysO backB sailB plc car bnd bsk dyL rsn pastF pastN logF logN hsN hsX hsF x).2.2.2.2.2.2.2) faultO daysO ((f_X11_comeHome nB day votes isOpen baskets lays recs fneed clos boatO seaO faultO daysO backB sailB plc car bnd bsk dyL rsn pastF pastN logF logN hsN hsX hsF x).2.1) sailB plc car bnd bsk dyL rsn pastF pastN ((f_X11_comeHome nB day votes isOpen baskets lays recs fneed clos boatO seaO faultO daysO backB sailB plc car bnd bsk dyL rsn pastF pastN logF logN hsN hsX hsF x).2.2.2.2.2.1) ((f_X11_comeHome nB day votes isOpen baskets lays recs fneed clos boatO seaO faultO daysO backB sailB plc car bnd bsk dyL rsn pastF pastN logF logN hsN hsX hsF x).2.2.2.2.2.2.1) ((f_X12_comeHome mPpl mBts mUs mW mUn x).2.2.2) ∧ RHi (N + 1) P B Q ((f_X11_comeHome nB day votes isOpen baskets lays recs fneed clos boatO seaO faultO daysO backB sailB plc car bnd bsk dyL rsn pastF pastN logF logN hsN hsX hsF x).2.2.2.1) ((f_X11_comeHome nB day votes isOpen baskets lays recs fneed clos boatO seaO faultO daysO backB sailB plc car bnd bsk dyL rsn pastF pastN logF logN hsN hsX hsF x).2.2.2.2.1) ((f_X11_comeHome nB day votes isOpen baskets lays recs fneed clos boatO seaO faultO daysO backB sailB plc car bnd bsk dyL rsn pastF pastN logF logN hsN hsX hsF x).2.2.1) ((f_X12_comeHome mPpl mBts mUs mW mUn x).2.2.1) ((f_X12_comeHome mPpl mBts mUs mW mUn x).2.1) := by
  have hP := su_P hs
  have hB := hs.2.2.2.2.2.1
  unfold f_X11_comeHome f_X12_comeHome S_X11_comeHome_35 S_X11_comeHome_43
  rw [eq_isBoat hs]
  cases c1 : f_X12_isBoat mBts x
  · simp only [cond_false]
    exact ⟨trivial, h.mono (Nat.le_succ N) hP hB, hh.mono (Nat.le_succ N) hP hB⟩
  obtain ⟨i, rfl, hi⟩ := boat_n hs c1
  rw [eq_out h hB hi]
  cases c3 : f_X12_isOut mW (nI i)
  · simp only [cond_true, cond_false]
    exact ⟨trivial, h.mono (Nat.le_succ N) hP hB, hh.mono (Nat.le_succ N) hP hB⟩
  · simp only [cond_true]
    obtain ⟨k1, k2, k3, -⟩ := st_home h.x h.l (by omega) hP hB hi (rs_outN h hB hi c3).1
    have hrem := ((hh.rem (t := (day, votes, isOpen, baskets, lays, recs, fneed, clos, boatO, seaO, faultO, daysO, backB, sailB, plc, car, bnd, bsk, dyL, rsn, pastF, pastN, logF, logN)) h hP hB).mono (Nat.le_succ N) hP hB)
    rw [← hs.2.1] at k1 k2 k3
    exact ⟨k1, (k2.congm (fun _ _ _ => rfl) (Nat.le_succ N) hP hB).st (k3.cong (by omega) rfl (fun _ _ _ => rfl)), hrem⟩
theorem join_aux (h : RSt N P B Q day votes isOpen baskets lays recs fneed clos boatO seaO faultO daysO backB sailB plc car bnd bsk dyL rsn pastF pastN logF logN mW) (hs : RSu P B Q nums bNames pNames fBoats nB nP mPpl mBts mNum mNam mFst mBnm) (hP : P ≤ 20) (hB : B ≤ 6) {i : Nat} (hi : i < P) (ha : f_X12_isAtSea mW (nI i) = false) {b : Int32} (hb : b = -2 ∨ vp_in b B) : RSt (N + 1) P B Q day votes isOpen baskets lays recs fneed clos (f_X2_assign boatO (nI i) b) seaO faultO daysO backB sailB plc car bnd bsk dyL rsn pastF pastN logF logN (f_X12_sets mW (nI i) 0 b) := by
  have e1 : f_X2_assign boatO (nI i) b = upd boatO i b := setCell_nI (by decide) (by omega)
  have e2 : f_X12_sets mW (nI i) 0 b = upd mW (9 + 11 * i + 0) b := sets_N (c := 0) (by omega) (by decide)
  have hz : seaO i = 0 ∧ mW (9 + 11 * i + 1) = -2 := by
    rcases (h.2.1 i hi).2.1 with z | ⟨z, -⟩
    · exact z
    · rw [← eq_sea h hP hi, x_sea (by omega), beq_false_of_ne z] at ha
      exact absurd ha (by decide)
  rw [e1, e2]
  have hoth : ∀ j, j ≠ 9 + 11 * i + 0 → upd mW (9 + 11 * i + 0) b j = mW j := fun j hj => upd_ne hj
  refine RSx.st ?_ (h.l.cong (by omega) (hoth 8 (by omega)) (fun j h1 h2 => hoth j (by omega)))
  refine ⟨h.1.congm (fun j hj => hoth j (by omega)) (Nat.le_succ N), fun p hp => ?_, fun p hp hp2 => ?_, fun b hb => (h.2.2.2.1 b hb).congm (fun c hc => hoth _ (by omega)) (Nat.le_succ N), h.2.2.2.2.1, h.2.2.2.2.2.1.congm (fun j h1 h2 => hoth j (by omega))⟩
  · by_cases q : p = i
    · subst q
      refine (h.2.1 p hp).sea ?_ ?_ (fun c h1 h2 => hoth _ (by omega)) (Nat.le_succ N)
      · rw [upd_eq]
        exact ⟨upd_eq, hb⟩
      · rw [hoth _ (by omega)]
        exact Or.inl hz
    · exact (h.2.1 p hp).cong (upd_ne q) rfl rfl rfl rfl rfl rfl rfl rfl rfl rfl (fun _ q => q) (fun q => q) (fun c hc => hoth _ (by omega)) (Nat.le_succ N)
  · obtain ⟨a1, a2, a3, a4, a5, a6, a7, a8, a9, a10⟩ := h.2.2.1 p hp hp2
    refine ⟨?_, a2, a3, a4, a5, a6, a7, a8, a9, fun c hc => (hoth _ (by omega)).trans (a10 c hc)⟩
    rw [upd_ne (by omega)]
    exact a1
theorem st_join (h : RSt N P B Q day votes isOpen baskets lays recs fneed clos boatO seaO faultO daysO backB sailB plc car bnd bsk dyL rsn pastF pastN logF logN mW) (hs : RSu P B Q nums bNames pNames fBoats nB nP mPpl mBts mNum mNam mFst mBnm) (hh : RHi N P B Q hsN hsX hsF mUs mUn) (hN : N ≤ 600) (x y : Int32) : (f_X11_join nB nP day votes isOpen baskets lays recs fneed clos boatO seaO faultO daysO backB sailB plc car bnd bsk dyL rsn pastF pastN logF logN hsN hsX hsF x y).1 = (f_X12_join mPpl mBts mUs mW mUn x y).1 ∧ RSt (N + 1) P B Q day votes isOpen baskets lays recs fneed clos ((f_X11_join nB nP day votes isOpen baskets lays recs fneed clos boatO seaO faultO daysO backB sailB plc car bnd bsk dyL rsn pastF pastN logF logN hsN hsX hsF x y).2.1) seaO faultO daysO backB sailB plc car bnd bsk dyL rsn pastF pastN logF logN ((f_X12_join mPpl mBts mUs mW mUn x y).2.2.2) ∧ RHi (N + 1) P B Q ((f_X11_join nB nP day votes isOpen baskets lays recs fneed clos boatO seaO faultO daysO backB sailB plc car bnd bsk dyL rsn pastF pastN logF logN hsN hsX hsF x y).2.2.2.1) ((f_X11_join nB nP day votes isOpen baskets lays recs fneed clos boatO seaO faultO daysO backB sailB plc car bnd bsk dyL rsn pastF pastN logF logN hsN hsX hsF x y).2.2.2.2) ((f_X11_join nB nP day votes isOpen baskets lays recs fneed clos boatO seaO faultO daysO backB sailB plc car bnd bsk dyL rsn pastF pastN logF logN hsN hsX hsF x y).2.2.1) ((f_X12_join mPpl mBts mUs mW mUn x y).2.2.1) ((f_X12_join mPpl mBts mUs mW mUn x y).2.1) := by
  have hP := su_P hs
  have hB := hs.2.2.2.2.2.1
  unfold f_X11_join f_X12_join S_X11_join_69 S_X11_join_69a S_X11_join_81 S_X11_join_81a
  rw [eq_isPerson hs]
  cases c1 : f_X12_isPerson mPpl x
  · simp only [cond_false]
    exact ⟨trivial, h.mono (Nat.le_succ N) hP hB, hh.mono (Nat.le_succ N) hP hB⟩
  obtain ⟨i, rfl, hi⟩ := person_n hs c1
  have e0 : f_X12_of mW (nI i) 0 = boatO i := (of_0 (by omega)).trans (rs_boatO h hi)
  rw [eq_sea h hP hi, x_boatO (by omega), e0, eq_isBoat hs]
  by_cases c2 : y = -2 ∨ f_X12_isBoat mBts y = true
  · have hy : y = -2 ∨ vp_in y B := by
      rcases c2 with z | z
      · exact Or.inl z
      · obtain ⟨j, rfl, hj⟩ := boat_n hs z
        exact Or.inr (vp_in_nI hj (by omega))
    simp only [cond_true, sel2 c2]
    cases c3 : f_X12_isAtSea mW (nI i)
    · simp only [cond_false]
      by_cases q1 : boatO i = y
      · simp only [if_pos q1]
        exact ⟨trivial, h.mono (Nat.le_succ N) hP hB, hh.mono (Nat.le_succ N) hP hB⟩
      · simp only [if_neg q1]
        have hj := join_aux h hs hP hB hi c3 hy
        have hrem := ((hh.rem (t := (day, votes, isOpen, baskets, lays, recs, fneed, clos, boatO, seaO, faultO, daysO, backB, sailB, plc, car, bnd, bsk, dyL, rsn, pastF, pastN, logF, logN)) h hP hB).mono (Nat.le_succ N) hP hB)
        by_cases q2 : boatO i = -2
        · have q3 : ¬ 0 ≤ boatO i := by
            rw [q2]
            decide
          rw [if_pos q2, if_neg q3]
          exact ⟨rfl, hj, hrem⟩
        · have q3 : 0 ≤ boatO i := by
            rcases (h.2.1 i hi).1.2 with z | z
            · exact absurd z q2
            · exact Int32.not_lt.mp (fun w => z (Or.inl w))
          rw [if_neg q2, if_pos q3]
          exact ⟨rfl, hj, hrem⟩
    · simp only [cond_true]
      exact ⟨trivial, h.mono (Nat.le_succ N) hP hB, hh.mono (Nat.le_succ N) hP hB⟩
  · simp only [cond_true, sel0 c2]
    exact ⟨trivial, h.mono (Nat.le_succ N) hP hB, hh.mono (Nat.le_succ N) hP hB⟩
end O2
