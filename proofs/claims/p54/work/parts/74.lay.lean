section O4
variable {N M P B Q A : Nat} {day votes isOpen baskets lays recs fneed clos pastN logN : Int32} {boatO seaO faultO daysO backB sailB plc car bnd bsk dyL rsn pastF logF mW mW2 : Nat → Int32}
variable {nums bNames pNames fBoats : Nat → Int32} {nB nP mPpl mBts : Int32} {mNum mNam mFst mBnm : Nat → Int32}
variable {hsN hsX mUs : Int32} {hsF : Nat → StT} {mUn : Nat → Int32}
theorem ref_neg (x y z : Int32) : f_X11_refusalToLay nP isOpen baskets seaO plc car x y z = 0 ∨ f_X11_refusalToLay nP isOpen baskets seaO plc car x y z < 0 := by
  unfold f_X11_refusalToLay
  cases f_X11_isPerson nP x
  · exact Or.inr (show (-1 : Int32) < 0 by decide)
  cases f_X11_isPerson nP y
  · exact Or.inr (show (-1 : Int32) < 0 by decide)
  cases f_X11_isBasket z
  · exact Or.inr (show (-1 : Int32) < 0 by decide)
  cases f_X2_isAtSea seaO x
  · cases f_X9_isHadBy plc car x y
    · exact Or.inr (show (-4 : Int32) < 0 by decide)
    · cases tb isOpen
      · exact Or.inr (show (-5 : Int32) < 0 by decide)
      · show (if z < baskets then (0 : Int32) else -5) = 0 ∨ (if z < baskets then (0 : Int32) else -5) < 0
        by_cases q : z < baskets
        · rw [if_pos q]
          exact Or.inl rfl
        · rw [if_neg q]
          exact Or.inr (by decide)
  · exact Or.inr (show (-3 : Int32) < 0 by decide)
theorem ref_0 {x y z : Int32} (h : f_X11_refusalToLay nP isOpen baskets seaO plc car x y z = 0) : f_X11_isPerson nP x = true ∧ f_X11_isPerson nP y = true ∧ f_X11_isBasket z = true ∧ f_X9_isHadBy plc car x y = true ∧ tb isOpen = true := by
  unfold f_X11_refusalToLay at h
  cases c1 : f_X11_isPerson nP x
  · rw [c1] at h
    exact absurd (show (-1 : Int32) = 0 from h) (by decide)
  cases c2 : f_X11_isPerson nP y
  · rw [c1, c2] at h
    exact absurd (show (-1 : Int32) = 0 from h) (by decide)
  cases c3 : f_X11_isBasket z
  · rw [c1, c2, c3] at h
    exact absurd (show (-1 : Int32) = 0 from h) (by decide)
  rw [c1, c2, c3] at h
  cases c4 : f_X2_isAtSea seaO x
  · rw [c4] at h
    cases c5 : f_X9_isHadBy plc car x y
    · rw [c5] at h
      exact absurd (show (-4 : Int32) = 0 from h) (by decide)
    · rw [c5] at h
      cases c6 : tb isOpen
      · rw [c6] at h
        exact absurd (show (-5 : Int32) = 0 from h) (by decide)
      · exact ⟨rfl, rfl, rfl, rfl, rfl⟩
  · rw [c4] at h
    exact absurd (show (-3 : Int32) = 0 from h) (by decide)
theorem reason_4 (x y z : Int32) : vp_in (f_X10_reasonFor nums seaO plc car bnd x y z) 4 := by
  unfold f_X10_reasonFor
  by_cases q : x = y
  · rw [if_pos q]
    exact vin_d (by decide)
  rw [if_neg q]
  cases f_X2_isAtSea seaO y
  · exact (show vp_in (1 : Int32) 4 from vin_d (by decide))
  · have d0 : vp_in (0 : Int32) 4 := vin_d (by decide)
    have d2 : vp_in (2 : Int32) 4 := vin_d (by decide)
    have d3 : vp_in (3 : Int32) 4 := vin_d (by decide)
    simp only [cond_true]
    split
    · split
      · exact d0
      · split
        · exact d0
        · exact d3
    · exact d2
theorem st_lay (h : RSt N P B Q day votes isOpen baskets lays recs fneed clos boatO seaO faultO daysO backB sailB plc car bnd bsk dyL rsn pastF pastN logF logN mW) (hs : RSu P B Q nums bNames pNames fBoats nB nP mPpl mBts mNum mNam mFst mBnm) (hh : RHi N P B Q hsN hsX hsF mUs mUn) (hN : N ≤ 600) (x y z : Int32) : (f_X11_lay nums nP day votes isOpen baskets lays recs fneed clos boatO seaO faultO daysO backB sailB plc car bnd bsk dyL rsn pastF pastN logF logN hsN hsX hsF x y z).1 = (f_X12_lay mPpl mUs mNum mW mUn x y z).1 ∧ RSt (N + 1) P B Q day votes isOpen baskets ((f_X11_lay nums nP day votes isOpen baskets lays recs fneed clos boatO seaO faultO daysO backB sailB plc car bnd bsk dyL rsn pastF pastN logF logN hsN hsX hsF x y z).2.2.2.2.2.2.1) recs fneed clos boatO seaO faultO daysO backB sailB ((f_X11_lay nums nP day votes isOpen baskets lays recs fneed clos boatO seaO faultO daysO backB sailB plc car bnd bsk dyL rsn pastF pastN logF logN hsN hsX hsF x y z).2.2.2.2.2.2.2.2.2.1) car bnd ((f_X11_lay nums nP day votes isOpen baskets lays recs fneed clos boatO seaO faultO daysO backB sailB plc car bnd bsk dyL rsn pastF pastN logF logN hsN hsX hsF x y z).2.1) ((f_X11_lay nums nP day votes isOpen baskets lays recs fneed clos boatO seaO faultO daysO backB sailB plc car bnd bsk dyL rsn pastF pastN logF logN hsN hsX hsF x y z).2.2.1) ((f_X11_lay nums nP day votes isOpen baskets lays recs fneed clos boatO seaO faultO daysO backB sailB plc car bnd bsk dyL rsn pastF pastN logF logN hsN hsX hsF x y z).2.2.2.2.2.2.2.2.2.2) pastF pastN ((f_X11_lay nums nP day votes isOpen baskets lays recs fneed clos boatO seaO faultO daysO backB sailB plc car bnd bsk dyL rsn pastF pastN logF logN hsN hsX hsF x y z).2.2.2.2.2.2.2.1) ((f_X11_lay nums nP day votes isOpen baskets lays recs fneed clos boatO seaO faultO daysO backB sailB plc car bnd bsk dyL rsn pastF pastN logF logN hsN hsX hsF x y z).2.2.2.2.2.2.2.2.1) ((f_X12_lay mPpl mUs mNum mW mUn x y z).2.2.2) ∧ RHi (N + 1) P B Q ((f_X11_lay nums nP day votes isOpen baskets lays recs fneed clos boatO seaO faultO daysO backB sailB plc car bnd bsk dyL rsn pastF pastN logF logN hsN hsX hsF x y z).2.2.2.2.1) ((f_X11_lay nums nP day votes isOpen baskets lays recs fneed clos boatO seaO faultO daysO backB sailB plc car bnd bsk dyL rsn pastF pastN logF logN hsN hsX hsF x y z).2.2.2.2.2.1) ((f_X11_lay nums nP day votes isOpen baskets lays recs fneed clos boatO seaO faultO daysO backB sailB plc car bnd bsk dyL rsn pastF pastN logF logN hsN hsX hsF x y z).2.2.2.1) ((f_X12_lay mPpl mUs mNum mW mUn x y z).2.2.1) ((f_X12_lay mPpl mUs mNum mW mUn x y z).2.1) := by
  have hP := su_P hs
  have hB := hs.2.2.2.2.2.1
  have hw := eq_why h hs x y z
  unfold f_X11_why f_X12_why at hw
  unfold f_X11_lay f_X12_lay S_X11_lay_25 S_X11_lay_35 S_X12_lay_18
  by_cases q : f_X11_refusalToLay nP isOpen baskets seaO plc car x y z = 0
  · rw [if_pos q] at hw
    have hr4 := reason_4 (nums := nums) (seaO := seaO) (plc := plc) (car := car) (bnd := bnd) x y z
    have hge : 0 ≤ f_X12_would mPpl mNum mW x y z := by
      rw [← hw]
      exact Int32.not_lt.mp (fun w => hr4 (Or.inl w))
    simp only [if_pos q, if_pos hge]
    obtain ⟨r1, r2, r3, r4, r5⟩ := ref_0 q
    rw [eq_isPerson hs] at r1 r2
    obtain ⟨i, rfl, hi⟩ := person_n hs r1
    obtain ⟨o, rfl, ho⟩ := person_n hs r2
    have hz4 : vp_in z 4 := (isIn_eq (n := 4) (by decide)).mp (show f_X11_isIn z (nI 4) = true from r3)
    have hrem := ((hh.rem (t := (day, votes, isOpen, baskets, lays, recs, fneed, clos, boatO, seaO, faultO, daysO, backB, sailB, plc, car, bnd, bsk, dyL, rsn, pastF, pastN, logF, logN)) h hP hB).mono (Nat.le_succ N) hP hB)
    have hplc : (plc o = 0 ∧ car o = -2 ∧ nI i = nI o) ∨ (plc o = 1 ∧ car o = nI i ∧ ¬ nI i = nI o) := by
      unfold f_X9_isHadBy at r4
      rw [x_plc (by omega), x_car (by omega)] at r4
      by_cases w : plc o = 0
      · rw [if_pos w] at r4
        by_cases w2 : nI i = nI o
        · exact Or.inl ⟨w, (h.2.1 o ho).2.2.2.2.2.2.2.1 w, w2⟩
        · rw [if_neg w2] at r4
          exact absurd r4 (by decide)
      · rw [if_neg w] at r4
        by_cases w1 : plc o = 1
        · rw [if_pos w1] at r4
          by_cases w2 : car o = nI i
          · exact Or.inr ⟨w1, w2, fun w3 => (h.2.1 o ho).2.2.2.2.2.2.1.2.2 (w2.trans w3)⟩
          · rw [if_neg w2] at r4
            exact absurd r4 (by decide)
        · rw [if_neg w1] at r4
          exact absurd r4 (by decide)
    have hnl : ¬ (plc o = 2 ∨ plc o = 3) := by
      rcases hplc with w | w
      · rw [w.1]
        decide
      · rw [w.1]
        decide
    have hv0 : ¬ votes = 0 := h.1.2.2.1.2 r5
    generalize hrr : f_X10_reasonFor nums seaO plc car bnd (nI i) (nI o) z = rr at hw hr4
    have e1 : f_X10_putIntoBasket nums day lays seaO plc car bnd bsk dyL rsn logF logN (nI i) (nI o) z = (f_X9_countIn (upd plc o 2) (upd bsk o z) z, upd bsk o z, upd dyL o day, lays + 1, (f_X5_add 30 logF logN day 3 (nI o) z).2, (f_X5_add 30 logF logN day 3 (nI o) z).1, upd plc o 2, upd rsn o rr) := by
      unfold f_X10_putIntoBasket f_X9_putInto
      rw [hrr, setCell_nI (by decide) (by omega), setCell_nI (by decide) (by omega), setCell_nI (by decide) (by omega), setCell_nI (by decide) (by omega)]
    have s25 : S_X12_lay_25 mW (nI o) = upd mW (9 + 11 * o + 5) 2 := sets_N (c := 5) (by omega) (by decide)
    have s33 : S_X12_lay_33 mW (nI o) z = upd (upd mW (9 + 11 * o + 5) 2) (9 + 11 * o + 8) z := by
      unfold S_X12_lay_33
      rw [s25]
      exact sets_N (c := 8) (by omega) (by decide)
    have s46 : S_X12_lay_46 mW (nI o) z = upd (upd (upd mW (9 + 11 * o + 5) 2) (9 + 11 * o + 8) z) (9 + 11 * o + 9) day := by
      unfold S_X12_lay_46
      rw [s33, upd_ne (by omega), upd_ne (by omega), rs_day h]
      exact sets_N (c := 9) (by omega) (by decide)
    have s55 : S_X12_lay_55 mPpl mNum mW (nI i) (nI o) z = upd (upd (upd (upd mW (9 + 11 * o + 5) 2) (9 + 11 * o + 8) z) (9 + 11 * o + 9) day) (9 + 11 * o + 10) rr := by
      unfold S_X12_lay_55
      rw [s46, ← hw]
      exact sets_N (c := 10) (by omega) (by decide)
    have s78 : S_X12_lay_78 mPpl mNum mW (nI i) (nI o) z = upd (upd (upd (upd (upd mW (9 + 11 * o + 5) 2) (9 + 11 * o + 8) z) (9 + 11 * o + 9) day) (9 + 11 * o + 10) rr) (9 + 11 * i + 4) (mW (9 + 11 * i + 4) + J_X12_lay_69 (nI i) (nI o)) := by
      unfold S_X12_lay_78
      rw [s55, of_4 (by omega), upd_ne (by omega), upd_ne (by omega), upd_ne (by omega), upd_ne (by omega)]
      exact sets_N (c := 4) (by omega) (by decide)
    have s96 : S_X12_lay_96 mPpl mNum mW (nI i) (nI o) z = f_X12_tells (upd (upd (upd (upd (upd (upd mW (9 + 11 * o + 5) 2) (9 + 11 * o + 8) z) (9 + 11 * o + 9) day) (9 + 11 * o + 10) rr) (9 + 11 * i + 4) (mW (9 + 11 * i + 4) + J_X12_lay_69 (nI i) (nI o))) 7 (lays + 1)) 3 (nI o) z := by
      unfold S_X12_lay_96
      rw [s78]
      have e7 : upd (upd (upd (upd (upd mW (9 + 11 * o + 5) 2) (9 + 11 * o + 8) z) (9 + 11 * o + 9) day) (9 + 11 * o + 10) rr) (9 + 11 * i + 4) (mW (9 + 11 * i + 4) + J_X12_lay_69 (nI i) (nI o)) 7 = lays := by
        rw [upd_ne (by omega), upd_ne (by omega), upd_ne (by omega), upd_ne (by omega), upd_ne (by omega)]
        exact h.1.2.2.2.2.1.1
      rw [e7]
    rw [e1, s96]
    dsimp only
    have hoth : ∀ k, k ≠ 7 → k ≠ 9 + 11 * i + 4 → k ≠ 9 + 11 * o + 5 → (k < 9 + 11 * o + 8 ∨ 9 + 11 * o + 10 < k) → upd (upd (upd (upd (upd (upd mW (9 + 11 * o + 5) 2) (9 + 11 * o + 8) z) (9 + 11 * o + 9) day) (9 + 11 * o + 10) rr) (9 + 11 * i + 4) (mW (9 + 11 * i + 4) + J_X12_lay_69 (nI i) (nI o))) 7 (lays + 1) k = mW k := fun k h1 h2 h3 h4 => by
      rw [upd_ne h1, upd_ne h2, upd_ne (by omega), upd_ne (by omega), upd_ne (by omega), upd_ne h3]
    have c7 : upd (upd (upd (upd (upd (upd mW (9 + 11 * o + 5) 2) (9 + 11 * o + 8) z) (9 + 11 * o + 9) day) (9 + 11 * o + 10) rr) (9 + 11 * i + 4) (mW (9 + 11 * i + 4) + J_X12_lay_69 (nI i) (nI o))) 7 (lays + 1) 7 = lays + 1 := upd_eq
    have c4 : upd (upd (upd (upd (upd (upd mW (9 + 11 * o + 5) 2) (9 + 11 * o + 8) z) (9 + 11 * o + 9) day) (9 + 11 * o + 10) rr) (9 + 11 * i + 4) (mW (9 + 11 * i + 4) + J_X12_lay_69 (nI i) (nI o))) 7 (lays + 1) (9 + 11 * i + 4) = mW (9 + 11 * i + 4) + J_X12_lay_69 (nI i) (nI o) := by rw [upd_ne (by omega), upd_eq]
    have c5 : upd (upd (upd (upd (upd (upd mW (9 + 11 * o + 5) 2) (9 + 11 * o + 8) z) (9 + 11 * o + 9) day) (9 + 11 * o + 10) rr) (9 + 11 * i + 4) (mW (9 + 11 * i + 4) + J_X12_lay_69 (nI i) (nI o))) 7 (lays + 1) (9 + 11 * o + 5) = 2 := by rw [upd_ne (by omega), upd_ne (by omega), upd_ne (by omega), upd_ne (by omega), upd_ne (by omega), upd_eq]
    have c8 : upd (upd (upd (upd (upd (upd mW (9 + 11 * o + 5) 2) (9 + 11 * o + 8) z) (9 + 11 * o + 9) day) (9 + 11 * o + 10) rr) (9 + 11 * i + 4) (mW (9 + 11 * i + 4) + J_X12_lay_69 (nI i) (nI o))) 7 (lays + 1) (9 + 11 * o + 8) = z := by rw [upd_ne (by omega), upd_ne (by omega), upd_ne (by omega), upd_ne (by omega), upd_eq]
    have c9 : upd (upd (upd (upd (upd (upd mW (9 + 11 * o + 5) 2) (9 + 11 * o + 8) z) (9 + 11 * o + 9) day) (9 + 11 * o + 10) rr) (9 + 11 * i + 4) (mW (9 + 11 * i + 4) + J_X12_lay_69 (nI i) (nI o))) 7 (lays + 1) (9 + 11 * o + 9) = day := by rw [upd_ne (by omega), upd_ne (by omega), upd_ne (by omega), upd_eq]
    have c10 : upd (upd (upd (upd (upd (upd mW (9 + 11 * o + 5) 2) (9 + 11 * o + 8) z) (9 + 11 * o + 9) day) (9 + 11 * o + 10) rr) (9 + 11 * i + 4) (mW (9 + 11 * i + 4) + J_X12_lay_69 (nI i) (nI o))) 7 (lays + 1) (9 + 11 * o + 10) = rr := by rw [upd_ne (by omega), upd_ne (by omega), upd_eq]
    generalize upd (upd (upd (upd (upd (upd mW (9 + 11 * o + 5) 2) (9 + 11 * o + 8) z) (9 + 11 * o + 9) day) (9 + 11 * o + 10) rr) (9 + 11 * i + 4) (mW (9 + 11 * i + 4) + J_X12_lay_69 (nI i) (nI o))) 7 (lays + 1) = V at hoth c7 c4 c5 c8 c9 c10
    have hl1 : RLg (30 * N) logF logN V := h.l.cong (Nat.le_refl _) (hoth 8 (by omega) (by omega) (by omega) (by omega)) (fun k h1 h2 => hoth k (by omega) (by omega) (by omega) (by omega))
    have hl2 := hl1.add (by omega) ((hoth 0 (by omega) (by omega) (by omega) (by omega)).trans (rs_day h)) 3 (nI o) z (lgV h.1.1.2) (Or.inr (by decide)) (lgK (by omega)) (lgV hz4)
    have hoff : ∀ p, p ≠ o → upd plc o 2 p = plc p ∧ car p = car p := fun p hp => ⟨upd_ne hp, rfl⟩
    obtain ⟨-, -, -, -, -, -, g, -, -, k, -⟩ := h.2.1 o ho
    have hsc : RSc (N + 1) Q day votes isOpen baskets (lays + 1) recs fneed clos V := by
      obtain ⟨⟨a1, a2⟩, ⟨b1, b2⟩, ⟨d1, d2⟩, ⟨f1, f2⟩, ⟨l1, l2, l3⟩, ⟨m1, m2⟩, n⟩ := h.1
      have hj : ∀ j, j < 7 → V j = mW j := fun j hj => hoth j (by omega) (by omega) (by omega) (by omega)
      obtain ⟨el, hl⟩ := vin_nI l2
      refine ⟨⟨(hj 0 (by decide)).trans a1, vin_w a2 (by omega)⟩, ⟨(hj 1 (by decide)).trans b1, vin_w b2 (by omega)⟩, ⟨(hj 2 (by decide)).trans d1, d2⟩, ⟨(hj 3 (by decide)).trans f1, f2⟩, ⟨c7, ?_, fun w => absurd w hv0⟩, ⟨(hj 6 (by decide)).trans m1, m2⟩, fun w => ?_⟩
      · rw [el, nI_1]
        exact vp_in_nI (by omega) (by omega)
      · rw [r5] at w
        exact absurd w (by decide)
    have hst : RSx (N + 1) P B Q day votes isOpen baskets (lays + 1) recs fneed clos boatO seaO faultO daysO backB sailB (upd plc o 2) car bnd (upd bsk o z) (upd dyL o day) (upd rsn o rr) pastF pastN V := by
      refine RSx.stick h.x ho hP hB (Nat.le_succ N) (fun p hp => ⟨upd_ne hp, rfl, rfl, upd_ne hp, upd_ne hp, upd_ne hp⟩) ?_ (fun p hp => ?_) (fun p c hp hc hc4 hn => hoth _ (by omega) (by omega) (by omega) (by omega)) (fun k h1 h2 => hoth k (by omega) (by omega) (by omega) (by omega)) hsc
      · rw [c5, c8, c9, c10, upd_eq, upd_eq, upd_eq, upd_eq, hoth _ (by omega) (by omega) (by omega) (by omega), hoth _ (by omega) (by omega) (by omega) (by omega)]
        refine ⟨⟨rfl, vin_d (by decide)⟩, g, fun w => absurd w (by decide), fun w => absurd w (by decide), k, rfl, rfl, ⟨rfl, hr4⟩, fun w => ?_, fun _ => ⟨hz4, hv0⟩⟩
        rcases w with w | w
        · exact absurd w (by decide)
        · exact absurd w (by decide)
      · rw [cnt_on hoff hnl upd_eq]
        have h4 : mW (9 + 11 * p + 4) = nI (cntB (fun k => (plc k == 2 || plc k == 3) && car k == nI p) P) := (h.2.1 p hp).2.2.2.2.1
        by_cases w : p = i
        · subst w
          rw [c4, h4]
          unfold J_X12_lay_69
          rcases hplc with v | v
          · rw [if_pos v.2.2, if_neg (fun u => ne_m2 (by omega) (u.2.symm.trans v.2.1)), Int32.add_zero]
            rfl
          · rw [if_neg v.2.2, if_pos ⟨ho, v.2.1⟩, nI_1]
        · rw [hoth _ (by omega) (by omega) (by omega) (by omega), h4, if_neg (fun u => ?_)]
          · rfl
          · rcases hplc with v | v
            · exact ne_m2 (by omega) (u.2.symm.trans v.2.1)
            · exact w (nI_inj6 (by omega) (by omega) (u.2.symm.trans v.2.1))
    have hfin := RSx.st (RSx.tells hst hl1.n hP hB 3 (nI o) z) (hl2.cong (A' := 30 * (N + 1)) (by omega) rfl (fun _ _ _ => rfl))
    refine ⟨?_, hfin, hrem⟩
    unfold f_X9_countIn
    rw [hs.2.1, ← eq_setIn hfin hP, x_maskIn, bitc_msk _ (by decide), ones_msk _ (by decide)]
  · rw [if_neg q] at hw
    have hlt : ¬ 0 ≤ f_X12_would mPpl mNum mW x y z := by
      rw [← hw]
      rcases ref_neg (nP := nP) (isOpen := isOpen) (baskets := baskets) (seaO := seaO) (plc := plc) (car := car) x y z with w | w
      · exact absurd w q
      · exact fun v => Int32.not_lt.mpr v w
    simp only [if_neg q, if_neg hlt]
    exact ⟨hw, h.mono (Nat.le_succ N) hP hB, hh.mono (Nat.le_succ N) hP hB⟩
end O4
