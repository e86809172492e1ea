section O3
variable {N M P B Q A : Nat} {day votes isOpen baskets lays recs fneed clos pastN logN : Int32} {boatO seaO faultO daysO backB sailB plc car bnd bsk dyL rsn pastF logF mW mW2 : Nat → Int32}
variable {nums bNames pNames fBoats : Nat → Int32} {nB nP mPpl mBts : Int32} {mNum mNam mFst mBnm : Nat → Int32}
variable {hsN hsX mUs : Int32} {hsF : Nat → StT} {mUn : Nat → Int32}
variable {lays2 : Int32} {plc2 car2 bnd2 bsk2 dyL2 rsn2 : Nat → Int32}
/-- one stick changes -/
theorem RSx.stick (h : RSx N P B Q day votes isOpen baskets lays recs fneed clos boatO seaO faultO daysO backB sailB plc car bnd bsk dyL rsn pastF pastN mW) {o : Nat} (ho : o < P) (hP : P ≤ 20) (hB : B ≤ 6) (hN : N ≤ M)
    (hoff : ∀ p, p ≠ o → plc2 p = plc p ∧ car2 p = car p ∧ bnd2 p = bnd p ∧ bsk2 p = bsk p ∧ dyL2 p = dyL p ∧ rsn2 p = rsn p)
    (hst : (mW2 (9 + 11 * o + 5) = plc2 o ∧ vp_in (plc2 o) 4) ∧ (mW2 (9 + 11 * o + 6) = car2 o ∧ (car2 o = -2 ∨ vp_in (car2 o) P) ∧ ¬ car2 o = nI o) ∧ (plc2 o = 0 → car2 o = -2) ∧ (plc2 o = 1 → vp_in (car2 o) P) ∧ (mW2 (9 + 11 * o + 7) = bnd2 o ∧ (bnd2 o = -2 ∨ vp_in (bnd2 o) 4)) ∧ mW2 (9 + 11 * o + 8) = bsk2 o ∧ mW2 (9 + 11 * o + 9) = dyL2 o ∧ (mW2 (9 + 11 * o + 10) = rsn2 o ∧ vp_in (rsn2 o) 4) ∧ ((plc2 o = 0 ∨ plc2 o = 1) → bsk2 o = -2 ∧ dyL2 o = -2 ∧ rsn2 o = 0) ∧ ((plc2 o = 2 ∨ plc2 o = 3) → vp_in (bsk2 o) 4 ∧ ¬ votes = 0))
    (hcnt : ∀ p, p < P → mW2 (9 + 11 * p + 4) = nI (cntB (fun k => (plc2 k == 2 || plc2 k == 3) && car2 k == nI p) P))
    (hmp : ∀ p c, p < 20 → c < 11 → (p < P → c ≠ 4) → ¬ (p = o ∧ 5 ≤ c) → mW2 (9 + 11 * p + c) = mW (9 + 11 * p + c))
    (hmj : ∀ j, 229 ≤ j → j < 279 → mW2 j = mW j) (hsc : RSc M Q day votes isOpen baskets lays2 recs fneed clos mW2) : RSx M P B Q day votes isOpen baskets lays2 recs fneed clos boatO seaO faultO daysO backB sailB plc2 car2 bnd2 bsk2 dyL2 rsn2 pastF pastN mW2 := by
  refine ⟨hsc, fun p hp => ?_, fun p hp hp2 => ?_, fun b hb => (h.2.2.2.1 b hb).congm (fun c hc => hmj _ (by omega) (by omega)) hN, h.2.2.2.2.1, h.2.2.2.2.2.congm (fun j h1 h2 => hmj j (by omega) h2)⟩
  · obtain ⟨⟨a1, a2⟩, b, ⟨c1, c2⟩, ⟨d1, d2⟩, e, ⟨f1, f2⟩, ⟨g1, g2, g3⟩, i1, i2, ⟨k1, k2⟩, l, m, ⟨n1, n2⟩, o1, o2⟩ := h.2.1 p hp
    have x0 := (hmp p 0 (by omega) (by decide) (fun _ => by decide) (by omega)).trans a1
    have x1 := hmp p 1 (by omega) (by decide) (fun _ => by decide) (by omega)
    have x2 := (hmp p 2 (by omega) (by decide) (fun _ => by decide) (by omega)).trans c1
    have x3 := (hmp p 3 (by omega) (by decide) (fun _ => by decide) (by omega)).trans d1
    have xb : (seaO p = 0 ∧ mW2 (9 + 11 * p + 1) = -2) ∨ (¬ seaO p = 0 ∧ mW2 (9 + 11 * p + 1) = boatO p ∧ vp_in (boatO p) B ∧ ¬ backB (boatO p).toNatClampNeg = 0) := by
      rw [x1]
      exact b
    by_cases q : p = o
    · subst q
      obtain ⟨s1, s2, s3, s4, s5, s6, s7, s8, s9, s10⟩ := hst
      exact ⟨⟨x0, a2⟩, xb, ⟨x2, c2⟩, ⟨x3, vin_w d2 (by omega)⟩, hcnt p hp, s1, s2, s3, s4, s5, s6, s7, s8, s9, s10⟩
    · obtain ⟨q1, q2, q3, q4, q5, q6⟩ := hoff p q
      have hh : ∀ c, 5 ≤ c → c < 11 → mW2 (9 + 11 * p + c) = mW (9 + 11 * p + c) := fun c h1 h2 => hmp p c (by omega) h2 (fun _ => by omega) (fun z => q z.1)
      unfold RPe
      rw [hcnt p hp, hh 5 (by decide) (by decide), hh 6 (by decide) (by decide), hh 7 (by decide) (by decide), hh 8 (by decide) (by decide), hh 9 (by decide) (by decide), hh 10 (by decide) (by decide), q1, q2, q3, q4, q5, q6]
      exact ⟨⟨x0, a2⟩, xb, ⟨x2, c2⟩, ⟨x3, vin_w d2 (by omega)⟩, rfl, ⟨f1, f2⟩, ⟨g1, g2, g3⟩, i1, i2, ⟨k1, k2⟩, l, m, ⟨n1, n2⟩, o1, o2⟩
  · obtain ⟨a1, a2, a3, a4, a5, a6, a7, a8, a9, a10⟩ := h.2.2.1 p hp hp2
    obtain ⟨q1, q2, q3, q4, q5, q6⟩ := hoff p (by omega)
    exact ⟨a1, a2, a3, a4, q1.trans a5, q2.trans a6, q4.trans a7, q5.trans a8, q6.trans a9, fun c hc => (hmp p c hp2 hc (fun z => by omega) (by omega)).trans (a10 c hc)⟩
theorem cnt_off {o : Nat} (hoff : ∀ k, k ≠ o → plc2 k = plc k ∧ car2 k = car k) (h1 : ¬ (plc o = 2 ∨ plc o = 3)) (h2 : ¬ (plc2 o = 2 ∨ plc2 o = 3)) (v : Int32) (n : Nat) : cntB (fun k => (plc2 k == 2 || plc2 k == 3) && car2 k == v) n = cntB (fun k => (plc k == 2 || plc k == 3) && car k == v) n :=
  cntB_cong (fun k _ => by
    by_cases q : k = o
    · subst q
      rw [beq_false_of_ne (fun z => h1 (Or.inl z)), beq_false_of_ne (fun z => h1 (Or.inr z)), beq_false_of_ne (fun z => h2 (Or.inl z)), beq_false_of_ne (fun z => h2 (Or.inr z))]
      rfl
    · rw [(hoff k q).1, (hoff k q).2])
theorem cnt_on {o : Nat} (hoff : ∀ k, k ≠ o → plc2 k = plc k ∧ car2 k = car k) (h1 : ¬ (plc o = 2 ∨ plc o = 3)) (h2 : plc2 o = 2) (v : Int32) : ∀ n, cntB (fun k => (plc2 k == 2 || plc2 k == 3) && car2 k == v) n = cntB (fun k => (plc k == 2 || plc k == 3) && car k == v) n + if o < n ∧ car2 o = v then 1 else 0
  | 0 => by rw [if_neg (by omega)]; rfl
  | n + 1 => by
    rw [cntB, cntB, cnt_on hoff h1 h2 v n]
    by_cases q : n = o
    · subst q
      rw [h2, beq_false_of_ne (fun z => h1 (Or.inl z)), beq_false_of_ne (fun z => h1 (Or.inr z)), if_neg (by omega)]
      by_cases z : car2 n = v
      · rw [if_pos ⟨by omega, z⟩, z]
        simp
      · rw [if_neg (fun w => z w.2), beq_false_of_ne z]
        simp
    · rw [(hoff n q).1, (hoff n q).2]
      by_cases z : o < n ∧ car2 o = v
      · rw [if_pos z, if_pos ⟨by omega, z.2⟩]
        omega
      · rw [if_neg z, if_neg (fun w => z ⟨by omega, w.2⟩)]
        rfl
theorem ones_carried (h : RSt N P B Q day votes isOpen baskets lays recs fneed clos boatO seaO faultO daysO backB sailB plc car bnd bsk dyL rsn pastF pastN logF logN mW) (hP : P ≤ 20) (q : Int32) : f_J6_bitCount_0f7a4 (f_X9_carriedBy plc car q) = f_X12_ones (f_X12_carriedBy (nI P) mW q) := by
  rw [← eq_carried h hP, x_carried, bitc_msk _ (by decide), ones_msk _ (by decide)]
theorem give_aux (h : RSt N P B Q day votes isOpen baskets lays recs fneed clos boatO seaO faultO daysO backB sailB plc car bnd bsk dyL rsn pastF pastN logF logN mW) (hs : RSu P B Q nums bNames pNames fBoats nB nP mPpl mBts mNum mNam mFst mBnm) {i j : Nat} (hi : i < P) (hj : j < P) (hne : i ≠ j) (hz : plc i = 0) {b : Int32} (hb : b = -2 ∨ vp_in b 4) : RSt (N + 1) P B Q day votes isOpen baskets lays recs fneed clos boatO seaO faultO daysO backB sailB (upd plc i 1) (upd car i (nI j)) (upd bnd i b) bsk dyL rsn pastF pastN logF logN (f_X12_sets (f_X12_sets (f_X12_sets mW (nI i) 5 1) (nI i) 6 (nI j)) (nI i) 7 b) := by
  have hP := su_P hs
  have hB := hs.2.2.2.2.2.1
  have e1 : f_X12_sets (f_X12_sets (f_X12_sets mW (nI i) 5 1) (nI i) 6 (nI j)) (nI i) 7 b = upd (upd (upd mW (9 + 11 * i + 5) 1) (9 + 11 * i + 6) (nI j)) (9 + 11 * i + 7) b := by
    rw [show f_X12_sets mW (nI i) 5 1 = _ from sets_N (c := 5) (by omega) (by decide)]
    rw [show f_X12_sets (upd mW (9 + 11 * i + 5) 1) (nI i) 6 (nI j) = _ from sets_N (c := 6) (by omega) (by decide)]
    exact sets_N (c := 7) (by omega) (by decide)
  rw [e1]
  have hoth : ∀ k, k ≠ 9 + 11 * i + 5 → k ≠ 9 + 11 * i + 6 → k ≠ 9 + 11 * i + 7 → upd (upd (upd mW (9 + 11 * i + 5) 1) (9 + 11 * i + 6) (nI j)) (9 + 11 * i + 7) b k = mW k := fun k h1 h2 h3 => by rw [upd_ne h3, upd_ne h2, upd_ne h1]
  have c5 : upd (upd (upd mW (9 + 11 * i + 5) 1) (9 + 11 * i + 6) (nI j)) (9 + 11 * i + 7) b (9 + 11 * i + 5) = 1 := by rw [upd_ne (by omega), upd_ne (by omega), upd_eq]
  have c6 : upd (upd (upd mW (9 + 11 * i + 5) 1) (9 + 11 * i + 6) (nI j)) (9 + 11 * i + 7) b (9 + 11 * i + 6) = nI j := by rw [upd_ne (by omega), upd_eq]
  have c7 : upd (upd (upd mW (9 + 11 * i + 5) 1) (9 + 11 * i + 6) (nI j)) (9 + 11 * i + 7) b (9 + 11 * i + 7) = b := upd_eq
  generalize upd (upd (upd mW (9 + 11 * i + 5) 1) (9 + 11 * i + 6) (nI j)) (9 + 11 * i + 7) b = V at hoth c5 c6 c7
  obtain ⟨-, -, -, -, -, ⟨f1, f2⟩, -, -, -, -, l, m, ⟨n1, n2⟩, o1, -⟩ := h.2.1 i hi
  have hoff : ∀ p, p ≠ i → upd plc i 1 p = plc p ∧ upd car i (nI j) p = car p := fun p hp => ⟨upd_ne hp, upd_ne hp⟩
  refine RSx.st ?_ (h.l.cong (by omega) (hoth 8 (by omega) (by omega) (by omega)) (fun k h1 h2 => hoth k (by omega) (by omega) (by omega)))
  refine RSx.stick h.x hi hP hB (Nat.le_succ N) (fun p hp => ⟨upd_ne hp, upd_ne hp, upd_ne hp, rfl, rfl, rfl⟩) ?_ (fun p hp => ?_) (fun p c hp hc hc4 hn => hoth _ (by omega) (by omega) (by omega)) (fun k h1 h2 => hoth k (by omega) (by omega) (by omega)) (h.1.congm (fun k hk => hoth k (by omega) (by omega) (by omega)) (Nat.le_succ N))
  · rw [c5, c6, c7, upd_eq, upd_eq, upd_eq, hoth _ (by omega) (by omega) (by omega), hoth _ (by omega) (by omega) (by omega), hoth _ (by omega) (by omega) (by omega)]
    refine ⟨⟨rfl, vin_d (by decide)⟩, ⟨rfl, Or.inr (vp_in_nI hj (by omega)), fun z => hne (nI_inj6 (by omega) (by omega) z).symm⟩, fun z => absurd z (by decide), fun _ => vp_in_nI hj (by omega), ⟨rfl, hb⟩, l, m, ⟨n1, n2⟩, fun _ => o1 (Or.inl hz), fun z => ?_⟩
    rcases z with z | z
    · exact absurd z (by decide)
    · exact absurd z (by decide)
  · rw [hoth _ (by omega) (by omega) (by omega), (h.2.1 p hp).2.2.2.2.1, cnt_off hoff (by rw [hz]; decide) (by rw [upd_eq]; decide)]
theorem st_give (h : RSt N P B Q day votes isOpen baskets lays recs fneed clos boatO seaO faultO daysO backB sailB plc car bnd bsk dyL rsn pastF pastN logF logN mW) (hs : RSu P B Q nums bNames pNames fBoats nB nP mPpl mBts mNum mNam mFst mBnm) (hh : RHi N P B Q hsN hsX hsF mUs mUn) (hN : N ≤ 600) (x y z : Int32) : (f_X11_give nP day votes isOpen baskets lays recs fneed clos boatO seaO faultO daysO backB sailB plc car bnd bsk dyL rsn pastF pastN logF logN hsN hsX hsF x y z).1 = (f_X12_give mPpl mUs mW mUn x y z).1 ∧ RSt (N + 1) P B Q day votes isOpen baskets lays recs fneed clos boatO seaO faultO daysO backB sailB ((f_X11_give nP day votes isOpen baskets lays recs fneed clos boatO seaO faultO daysO backB sailB plc car bnd bsk dyL rsn pastF pastN logF logN hsN hsX hsF x y z).2.2.2.2.2.2) ((f_X11_give nP day votes isOpen baskets lays recs fneed clos boatO seaO faultO daysO backB sailB plc car bnd bsk dyL rsn pastF pastN logF logN hsN hsX hsF x y z).2.2.1) ((f_X11_give nP day votes isOpen baskets lays recs fneed clos boatO seaO faultO daysO backB sailB plc car bnd bsk dyL rsn pastF pastN logF logN hsN hsX hsF x y z).2.1) bsk dyL rsn pastF pastN logF logN ((f_X12_give mPpl mUs mW mUn x y z).2.2.2) ∧ RHi (N + 1) P B Q ((f_X11_give nP day votes isOpen baskets lays recs fneed clos boatO seaO faultO daysO backB sailB plc car bnd bsk dyL rsn pastF pastN logF logN hsN hsX hsF x y z).2.2.2.2.1) ((f_X11_give nP day votes isOpen baskets lays recs fneed clos boatO seaO faultO daysO backB sailB plc car bnd bsk dyL rsn pastF pastN logF logN hsN hsX hsF x y z).2.2.2.2.2.1) ((f_X11_give nP day votes isOpen baskets lays recs fneed clos boatO seaO faultO daysO backB sailB plc car bnd bsk dyL rsn pastF pastN logF logN hsN hsX hsF x y z).2.2.2.1) ((f_X12_give mPpl mUs mW mUn x y z).2.2.1) ((f_X12_give mPpl mUs mW mUn x y z).2.1) := by
  have hP := su_P hs
  have hB := hs.2.2.2.2.2.1
  unfold f_X11_give f_X12_give S_X11_give_94 S_X11_give_94a S_X11_give_107 S_X11_give_107a
  rw [eq_isPerson hs, eq_isPerson hs, eq_isBasket]
  cases c1 : f_X12_isPerson mPpl x
  · simp only [cond_false]
    exact ⟨trivial, h.mono (Nat.le_succ N) hP hB, hh.mono (Nat.le_succ N) hP hB⟩
  cases c2 : f_X12_isPerson mPpl y
  · simp only [cond_true, cond_false]
    exact ⟨trivial, h.mono (Nat.le_succ N) hP hB, hh.mono (Nat.le_succ N) hP hB⟩
  obtain ⟨i, rfl, hi⟩ := person_n hs c1
  obtain ⟨j, rfl, hj⟩ := person_n hs c2
  by_cases q : nI i = nI j
  · simp only [cond_true, if_pos q]
    exact ⟨trivial, h.mono (Nat.le_succ N) hP hB, hh.mono (Nat.le_succ N) hP hB⟩
  have hne : i ≠ j := fun w => q (by rw [w])
  have e5 : f_X12_of mW (nI i) 5 = plc i := (of_5 (by omega)).trans (rs_plc h hi)
  rw [eq_sea h hP hi, eq_sea h hP hj, x_plc (by omega), e5]
  simp only [cond_true, if_neg q]
  by_cases c3 : z = -2 ∨ f_X12_isBasket z = true
  · have hz : z = -2 ∨ vp_in z 4 := by
      rcases c3 with w | w
      · exact Or.inl w
      · exact Or.inr ((isIn_eq (n := 4) (by decide)).mp (show f_X11_isIn z (nI 4) = true from (eq_isBasket z).trans w))
    simp only [sel2 c3]
    cases f_X12_isAtSea mW (nI i)
    · cases f_X12_isAtSea mW (nI j)
      · simp only [cond_false]
        by_cases q0 : plc i = 0
        · rw [if_pos q0, if_pos q0]
          have hj2 := give_aux h hs hi hj hne q0 hz
          have hrem := ((hh.rem (t := (day, votes, isOpen, baskets, lays, recs, fneed, clos, boatO, seaO, faultO, daysO, backB, sailB, plc, car, bnd, bsk, dyL, rsn, pastF, pastN, logF, logN)) h hP hB).mono (Nat.le_succ N) hP hB)
          have e1 : f_X9_handTo plc car bnd (nI i) (nI j) z = (upd bnd i z, upd car i (nI j), upd plc i 1) := by
            unfold f_X9_handTo
            rw [setCell_nI (by decide) (by omega), setCell_nI (by decide) (by omega), setCell_nI (by decide) (by omega)]
          rw [e1, hs.2.1]
          exact ⟨ones_carried hj2 hP _, hj2, hrem⟩
        · simp only [if_neg q0]
          exact ⟨trivial, h.mono (Nat.le_succ N) hP hB, hh.mono (Nat.le_succ N) hP hB⟩
      · simp only [cond_true, cond_false]
        exact ⟨trivial, h.mono (Nat.le_succ N) hP hB, hh.mono (Nat.le_succ N) hP hB⟩
    · simp only [cond_true]
      exact ⟨trivial, h.mono (Nat.le_succ N) hP hB, hh.mono (Nat.le_succ N) hP hB⟩
  · simp only [sel0 c3]
    exact ⟨trivial, h.mono (Nat.le_succ N) hP hB, hh.mono (Nat.le_succ N) hP hB⟩
theorem st_takeBack (h : RSt N P B Q day votes isOpen baskets lays recs fneed clos boatO seaO faultO daysO backB sailB plc car bnd bsk dyL rsn pastF pastN logF logN mW) (hs : RSu P B Q nums bNames pNames fBoats nB nP mPpl mBts mNum mNam mFst mBnm) (hh : RHi N P B Q hsN hsX hsF mUs mUn) (hN : N ≤ 600) (x : Int32) : (f_X11_takeBack nP day votes isOpen baskets lays recs fneed clos boatO seaO faultO daysO backB sailB plc car bnd bsk dyL rsn pastF pastN logF logN hsN hsX hsF x).1 = (f_X12_takeBack mPpl mUs mW mUn x).1 ∧ RSt (N + 1) P B Q day votes isOpen baskets lays recs fneed clos boatO seaO faultO daysO backB sailB ((f_X11_takeBack nP day votes isOpen baskets lays recs fneed clos boatO seaO faultO daysO backB sailB plc car bnd bsk dyL rsn pastF pastN logF logN hsN hsX hsF x).2.2.2.2.2.2) ((f_X11_takeBack nP day votes isOpen baskets lays recs fneed clos boatO seaO faultO daysO backB sailB plc car bnd bsk dyL rsn pastF pastN logF logN hsN hsX hsF x).2.2.1) ((f_X11_takeBack nP day votes isOpen baskets lays recs fneed clos boatO seaO faultO daysO backB sailB plc car bnd bsk dyL rsn pastF pastN logF logN hsN hsX hsF x).2.1) bsk dyL rsn pastF pastN logF logN ((f_X12_takeBack mPpl mUs mW mUn x).2.2.2) ∧ RHi (N + 1) P B Q ((f_X11_takeBack nP day votes isOpen baskets lays recs fneed clos boatO seaO faultO daysO backB sailB plc car bnd bsk dyL rsn pastF pastN logF logN hsN hsX hsF x).2.2.2.2.1) ((f_X11_takeBack nP day votes isOpen baskets lays recs fneed clos boatO seaO faultO daysO backB sailB plc car bnd bsk dyL rsn pastF pastN logF logN hsN hsX hsF x).2.2.2.2.2.1) ((f_X11_takeBack nP day votes isOpen baskets lays recs fneed clos boatO seaO faultO daysO backB sailB plc car bnd bsk dyL rsn pastF pastN logF logN hsN hsX hsF x).2.2.2.1) ((f_X12_takeBack mPpl mUs mW mUn x).2.2.1) ((f_X12_takeBack mPpl mUs mW mUn x).2.1) := by
  have hP := su_P hs
  have hB := hs.2.2.2.2.2.1
  unfold f_X11_takeBack f_X12_takeBack S_X11_takeBack_93 S_X11_takeBack_104
  rw [eq_isPerson hs]
  cases c1 : f_X12_isPerson mPpl x
  · simp only [cond_false]
    exact ⟨trivial, h.mono (Nat.le_succ N) hP hB, hh.mono (Nat.le_succ N) hP hB⟩
  obtain ⟨i, rfl, hi⟩ := person_n hs c1
  have e5 : f_X12_of mW (nI i) 5 = plc i := (of_5 (by omega)).trans (rs_plc h hi)
  have e6 : f_X12_of mW (nI i) 6 = car i := (of_6 (by omega)).trans (rs_car h hi)
  rw [eq_sea h hP hi, x_plc (by omega), x_car (by omega), e5, e6]
  simp only [cond_true]
  by_cases q : plc i = 1
  · simp only [if_pos q]
    obtain ⟨ej, hj⟩ := vin_nI ((h.2.1 i hi).2.2.2.2.2.2.2.2.1 q)
    have es : f_X2_isAtSea seaO (car i) = f_X12_isAtSea mW (car i) := by
      rw [ej]
      exact eq_sea h hP hj
    rw [es]
    cases f_X12_isAtSea mW (nI i)
    · cases f_X12_isAtSea mW (car i)
      · simp only [cond_false]
        have hrem := ((hh.rem (t := (day, votes, isOpen, baskets, lays, recs, fneed, clos, boatO, seaO, faultO, daysO, backB, sailB, plc, car, bnd, bsk, dyL, rsn, pastF, pastN, logF, logN)) h hP hB).mono (Nat.le_succ N) hP hB)
        have e1 : f_X9_handBack plc car bnd (nI i) = (upd bnd i (-2), upd car i (-2), upd plc i 0) := by
          unfold f_X9_handBack
          rw [setCell_nI (by decide) (by omega), setCell_nI (by decide) (by omega), setCell_nI (by decide) (by omega)]
        have e2 : f_X12_atHand mW (nI i) = upd (upd (upd (upd (upd (upd mW (9 + 11 * i + 5) 0) (9 + 11 * i + 6) (-2)) (9 + 11 * i + 7) (-2)) (9 + 11 * i + 8) (-2)) (9 + 11 * i + 9) (-2)) (9 + 11 * i + 10) 0 := by
          unfold f_X12_atHand f_X12_isLaidNoMore
          rw [show f_X12_sets mW (nI i) 5 0 = _ from sets_N (c := 5) (by omega) (by decide)]
          rw [show f_X12_sets (upd mW (9 + 11 * i + 5) 0) (nI i) 6 (-2) = _ from sets_N (c := 6) (by omega) (by decide)]
          rw [show ∀ V : Nat → Int32, f_X12_sets V (nI i) 7 (-2) = upd V (9 + 11 * i + 7) (-2) from fun V => sets_N (c := 7) (by omega) (by decide)]
          rw [show ∀ V : Nat → Int32, f_X12_sets V (nI i) 8 (-2) = upd V (9 + 11 * i + 8) (-2) from fun V => sets_N (c := 8) (by omega) (by decide)]
          rw [show ∀ V : Nat → Int32, f_X12_sets V (nI i) 9 (-2) = upd V (9 + 11 * i + 9) (-2) from fun V => sets_N (c := 9) (by omega) (by decide)]
          exact sets_N (c := 10) (by omega) (by decide)
        rw [e1, e2]
        refine ⟨trivial, ?_, hrem⟩
        dsimp only
        have hoth : ∀ k, (k < 9 + 11 * i + 5 ∨ 9 + 11 * i + 10 < k) → upd (upd (upd (upd (upd (upd mW (9 + 11 * i + 5) 0) (9 + 11 * i + 6) (-2)) (9 + 11 * i + 7) (-2)) (9 + 11 * i + 8) (-2)) (9 + 11 * i + 9) (-2)) (9 + 11 * i + 10) 0 k = mW k := fun k hk => by
          rw [upd_ne (by omega), upd_ne (by omega), upd_ne (by omega), upd_ne (by omega), upd_ne (by omega), upd_ne (by omega)]
        have c5 : upd (upd (upd (upd (upd (upd mW (9 + 11 * i + 5) 0) (9 + 11 * i + 6) (-2)) (9 + 11 * i + 7) (-2)) (9 + 11 * i + 8) (-2)) (9 + 11 * i + 9) (-2)) (9 + 11 * i + 10) 0 (9 + 11 * i + 5) = 0 := by rw [upd_ne (by omega), upd_ne (by omega), upd_ne (by omega), upd_ne (by omega), upd_ne (by omega), upd_eq]
        have c6 : upd (upd (upd (upd (upd (upd mW (9 + 11 * i + 5) 0) (9 + 11 * i + 6) (-2)) (9 + 11 * i + 7) (-2)) (9 + 11 * i + 8) (-2)) (9 + 11 * i + 9) (-2)) (9 + 11 * i + 10) 0 (9 + 11 * i + 6) = -2 := by rw [upd_ne (by omega), upd_ne (by omega), upd_ne (by omega), upd_ne (by omega), upd_eq]
        have c7 : upd (upd (upd (upd (upd (upd mW (9 + 11 * i + 5) 0) (9 + 11 * i + 6) (-2)) (9 + 11 * i + 7) (-2)) (9 + 11 * i + 8) (-2)) (9 + 11 * i + 9) (-2)) (9 + 11 * i + 10) 0 (9 + 11 * i + 7) = -2 := by rw [upd_ne (by omega), upd_ne (by omega), upd_ne (by omega), upd_eq]
        have c8 : upd (upd (upd (upd (upd (upd mW (9 + 11 * i + 5) 0) (9 + 11 * i + 6) (-2)) (9 + 11 * i + 7) (-2)) (9 + 11 * i + 8) (-2)) (9 + 11 * i + 9) (-2)) (9 + 11 * i + 10) 0 (9 + 11 * i + 8) = -2 := by rw [upd_ne (by omega), upd_ne (by omega), upd_eq]
        have c9 : upd (upd (upd (upd (upd (upd mW (9 + 11 * i + 5) 0) (9 + 11 * i + 6) (-2)) (9 + 11 * i + 7) (-2)) (9 + 11 * i + 8) (-2)) (9 + 11 * i + 9) (-2)) (9 + 11 * i + 10) 0 (9 + 11 * i + 9) = -2 := by rw [upd_ne (by omega), upd_eq]
        have c10 : upd (upd (upd (upd (upd (upd mW (9 + 11 * i + 5) 0) (9 + 11 * i + 6) (-2)) (9 + 11 * i + 7) (-2)) (9 + 11 * i + 8) (-2)) (9 + 11 * i + 9) (-2)) (9 + 11 * i + 10) 0 (9 + 11 * i + 10) = 0 := upd_eq
        generalize upd (upd (upd (upd (upd (upd mW (9 + 11 * i + 5) 0) (9 + 11 * i + 6) (-2)) (9 + 11 * i + 7) (-2)) (9 + 11 * i + 8) (-2)) (9 + 11 * i + 9) (-2)) (9 + 11 * i + 10) 0 = V at hoth c5 c6 c7 c8 c9 c10
        obtain ⟨o1, o2, o3⟩ := (h.2.1 i hi).2.2.2.2.2.2.2.2.2.2.2.2.2.1 (Or.inr q)
        have hoff : ∀ p, p ≠ i → upd plc i 0 p = plc p ∧ upd car i (-2) p = car p := fun p hp => ⟨upd_ne hp, upd_ne hp⟩
        refine RSx.st ?_ (h.l.cong (by omega) (hoth 8 (by omega)) (fun k h1 h2 => hoth k (by omega)))
        refine RSx.stick h.x hi hP hB (Nat.le_succ N) (fun p hp => ⟨upd_ne hp, upd_ne hp, upd_ne hp, rfl, rfl, rfl⟩) ?_ (fun p hp => ?_) (fun p c hp hc hc4 hn => hoth _ (by omega)) (fun k h1 h2 => hoth k (by omega)) (h.1.congm (fun k hk => hoth k (by omega)) (Nat.le_succ N))
        · rw [c5, c6, c7, c8, c9, c10, upd_eq, upd_eq, upd_eq, o1, o2, o3]
          refine ⟨⟨rfl, vin_d (by decide)⟩, ⟨rfl, Or.inl rfl, fun z => ne_m2 (by omega) z.symm⟩, fun _ => rfl, fun z => absurd z (by decide), ⟨rfl, Or.inl rfl⟩, rfl, rfl, ⟨rfl, vin_d (by decide)⟩, fun _ => ⟨rfl, rfl, rfl⟩, fun z => ?_⟩
          rcases z with z | z
          · exact absurd z (by decide)
          · exact absurd z (by decide)
        · rw [hoth _ (by omega), (h.2.1 p hp).2.2.2.2.1, cnt_off hoff (by rw [q]; decide) (by rw [upd_eq]; decide)]
      · simp only [cond_true, cond_false]
        exact ⟨trivial, h.mono (Nat.le_succ N) hP hB, hh.mono (Nat.le_succ N) hP hB⟩
    · simp only [cond_true]
      exact ⟨trivial, h.mono (Nat.le_succ N) hP hB, hh.mono (Nat.le_succ N) hP hB⟩
  · simp only [if_neg q]
    cases f_X12_isAtSea mW (nI i)
    · simp only [cond_false]
      exact ⟨trivial, h.mono (Nat.le_succ N) hP hB, hh.mono (Nat.le_succ N) hP hB⟩
    · simp only [cond_true]
      exact ⟨trivial, h.mono (Nat.le_succ N) hP hB, hh.mono (Nat.le_succ N) hP hB⟩
end O3
