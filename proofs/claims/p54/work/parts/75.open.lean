section O5
variable {N M P B Q A : Nat} {day votes isOpen baskets lays recs fneed clos pastN logN : Int32} {boatO seaO faultO daysO backB sailB plc car bnd bsk dyL rsn pastF logF mW mW2 : Nat → Int32}
variable {nums bNames pNames fBoats : Nat → Int32} {nB nP mPpl mBts : Int32} {mNum mNam mFst mBnm : Nat → Int32}
variable {hsN hsX mUs : Int32} {hsF : Nat → StT} {mUn : Nat → Int32}
theorem x_takeOut : ∀ n, n ≤ 20 → ∀ j, j < n → (L_X9_takeOut_2 plc car bsk dyL rsn n).1 j = -2 ∧ (L_X9_takeOut_2 plc car bsk dyL rsn n).2.1 j = -2 ∧ (L_X9_takeOut_2 plc car bsk dyL rsn n).2.2.1 j = (if car j = -2 then 0 else 1) ∧ (L_X9_takeOut_2 plc car bsk dyL rsn n).2.2.2 j = 0 := by
  refine iter_inv (fun n (s : (Nat → Int32) × (Nat → Int32) × (Nat → Int32) × (Nat → Int32)) => ∀ j, j < n → s.1 j = -2 ∧ s.2.1 j = -2 ∧ s.2.2.1 j = (if car j = -2 then 0 else 1) ∧ s.2.2.2 j = 0) (fun j hj => absurd hj (by omega)) (fun n s hn hI j hj => ?_)
  rw [x_car hn, setCell_nI (by decide) hn, setCell_nI (by decide) hn, setCell_nI (by decide) hn, setCell_nI (by decide) hn, setCell_nI (by decide) hn]
  by_cases e : j = n
  · subst e
    by_cases q : car j = -2
    · rw [if_pos q, if_pos q]
      exact ⟨upd_eq, upd_eq, upd_eq, upd_eq⟩
    · rw [if_neg q, if_neg q]
      exact ⟨upd_eq, upd_eq, upd_eq, upd_eq⟩
  · obtain ⟨h1, h2, h3, h4⟩ := hI j (by omega)
    by_cases q : car n = -2
    · rw [if_pos q]
      exact ⟨(upd_ne e).trans h1, (upd_ne e).trans h2, (upd_ne e).trans h3, (upd_ne e).trans h4⟩
    · rw [if_neg q]
      exact ⟨(upd_ne e).trans h1, (upd_ne e).trans h2, (upd_ne e).trans h3, (upd_ne e).trans h4⟩
def BV (car : Nat → Int32) (mW : Nat → Int32) (p c : Nat) : Int32 := if c = 4 then 0 else if c = 5 then (if car p = -2 then 0 else 1) else if c = 8 ∨ c = 9 then -2 else if c = 10 then 0 else mW (9 + 11 * p + c)
theorem m_back (h : RSt N P B Q day votes isOpen baskets lays recs fneed clos boatO seaO faultO daysO backB sailB plc car bnd bsk dyL rsn pastF pastN logF logN mW) (hP : P ≤ 20) : ∀ n, n ≤ P → (∀ p c, p < 20 → c < 11 → L_X12_open_32 mW n (9 + 11 * p + c) = if p < n then BV car mW p c else mW (9 + 11 * p + c)) ∧ ∀ j, (j < 9 ∨ 229 ≤ j) → L_X12_open_32 mW n j = mW j := by
  refine iter_inv (fun n (s : Nat → Int32) => (∀ p c, p < 20 → c < 11 → s (9 + 11 * p + c) = if p < n then BV car mW p c else mW (9 + 11 * p + c)) ∧ ∀ j, (j < 9 ∨ 229 ≤ j) → s j = mW j) ⟨fun p c _ _ => by rw [if_neg (by omega)], fun _ _ => rfl⟩ (fun n s hn hI => ?_)
  obtain ⟨i1, i2⟩ := hI
  have hn20 : n < 20 := by omega
  have own : ∀ c, c < 11 → s (9 + 11 * n + c) = mW (9 + 11 * n + c) := fun c hc => by rw [i1 n c hn20 hc, if_neg (by omega)]
  obtain ⟨-, -, -, -, -, ⟨f1, f2⟩, ⟨g1, g2, -⟩, p0, p1, -, l, m, ⟨n1, -⟩, o1, -⟩ := h.2.1 n hn
  have e4 : f_X12_sets s (nI n) 4 0 = upd s (9 + 11 * n + 4) 0 := sets_N (c := 4) hn20 (by decide)
  have e6 : f_X12_of (upd s (9 + 11 * n + 4) 0) (nI n) 6 = car n := by rw [of_6 hn20, upd_ne (by omega), own 6 (by decide), g1]
  have eL : f_X12_isLaid (upd s (9 + 11 * n + 4) 0) (nI n) = !decide (plc n < 2) := by
    unfold f_X12_isLaid
    rw [of_5 hn20, upd_ne (by omega), own 5 (by decide), f1]
    by_cases q : plc n < 2
    · rw [if_pos q, decide_eq_true q]
      rfl
    · rw [if_neg q, decide_eq_false q]
      rfl
  have lnm : ∀ v : Int32, f_X12_isLaidNoMore (f_X12_sets (upd s (9 + 11 * n + 4) 0) (nI n) 5 v) (nI n) = upd (upd (upd (upd (upd s (9 + 11 * n + 4) 0) (9 + 11 * n + 5) v) (9 + 11 * n + 8) (-2)) (9 + 11 * n + 9) (-2)) (9 + 11 * n + 10) 0 := fun v => by
    unfold f_X12_isLaidNoMore
    rw [show ∀ V : Nat → Int32, f_X12_sets V (nI n) 5 v = upd V (9 + 11 * n + 5) v from fun V => sets_N (c := 5) hn20 (by decide)]
    rw [show ∀ V : Nat → Int32, f_X12_sets V (nI n) 8 (-2) = upd V (9 + 11 * n + 8) (-2) from fun V => sets_N (c := 8) hn20 (by decide)]
    rw [show ∀ V : Nat → Int32, f_X12_sets V (nI n) 9 (-2) = upd V (9 + 11 * n + 9) (-2) from fun V => sets_N (c := 9) hn20 (by decide)]
    exact sets_N (c := 10) hn20 (by decide)
  have tail : ∀ W : Nat → Int32, (∀ c, c < 11 → W (9 + 11 * n + c) = BV car mW n c) → (∀ j, (j < 9 + 11 * n ∨ 9 + 11 * n + 11 ≤ j) → W j = s j) → (∀ p c, p < 20 → c < 11 → W (9 + 11 * p + c) = if p < n + 1 then BV car mW p c else mW (9 + 11 * p + c)) ∧ ∀ j, (j < 9 ∨ 229 ≤ j) → W j = mW j := fun W w1 w2 => by
    refine ⟨fun p c hp hc => ?_, fun j hj => (w2 j (by omega)).trans (i2 j hj)⟩
    by_cases e : p = n
    · subst e
      rw [if_pos (by omega)]
      exact w1 c hc
    · rw [w2 _ (by omega), i1 p c hp hc]
      by_cases q : p < n
      · rw [if_pos q, if_pos (by omega)]
      · rw [if_neg q, if_neg (by omega)]
  unfold f_X12_isBackFromVote
  rw [e4, e6, eL, lnm, lnm]
  by_cases q : plc n < 2
  · rw [decide_eq_true q]
    have q01 : plc n = 0 ∨ plc n = 1 := by
      obtain ⟨e, he⟩ := vin_nI f2
      generalize (plc n).toNatClampNeg = k at e he
      rw [e] at q
      have := (nI_ltI (b := 2) (by omega) (by omega)).mp q
      rcases (show k = 0 ∨ k = 1 by omega) with w | w
      · exact Or.inl (by rw [e, w]; rfl)
      · exact Or.inr (by rw [e, w]; rfl)
    obtain ⟨r1, r2, r3⟩ := o1 q01
    refine tail _ (fun c hc => ?_) (fun j hj => upd_ne (by omega))
    show upd s (9 + 11 * n + 4) 0 (9 + 11 * n + c) = BV car mW n c
    unfold BV
    by_cases c4 : c = 4
    · rw [c4, upd_eq, if_pos rfl]
    rw [upd_ne (by omega), own c hc, if_neg c4]
    by_cases c5 : c = 5
    · rw [c5, if_pos rfl, f1]
      rcases q01 with w | w
      · rw [w, p0 w, if_pos rfl]
      · have hcn : ¬ car n = -2 := by
          intro v
          have := p1 w
          rw [v] at this
          exact this (Or.inl (by decide))
        rw [w, if_neg hcn]
    rw [if_neg c5]
    by_cases c89 : c = 8 ∨ c = 9
    · rw [if_pos c89]
      rcases c89 with w | w
      · rw [w, l, r1]
      · rw [w, m, r2]
    rw [if_neg c89]
    by_cases c10 : c = 10
    · rw [c10, if_pos rfl, n1, r3]
    rw [if_neg c10]
  · rw [decide_eq_false q]
    have key : ∀ v : Int32, v = (if car n = -2 then 0 else 1) → ∀ c, c < 11 → upd (upd (upd (upd (upd s (9 + 11 * n + 4) 0) (9 + 11 * n + 5) v) (9 + 11 * n + 8) (-2)) (9 + 11 * n + 9) (-2)) (9 + 11 * n + 10) 0 (9 + 11 * n + c) = BV car mW n c := fun v hv c hc => by
      unfold BV
      by_cases c4 : c = 4
      · rw [c4, upd_ne (by omega), upd_ne (by omega), upd_ne (by omega), upd_ne (by omega), upd_eq, if_pos rfl]
      rw [if_neg c4]
      by_cases c5 : c = 5
      · rw [c5, upd_ne (by omega), upd_ne (by omega), upd_ne (by omega), upd_eq, if_pos rfl]
        exact hv
      rw [if_neg c5]
      by_cases c89 : c = 8 ∨ c = 9
      · rw [if_pos c89]
        rcases c89 with w | w
        · rw [w, upd_ne (by omega), upd_ne (by omega), upd_eq]
        · rw [w, upd_ne (by omega), upd_eq]
      rw [if_neg c89]
      by_cases c10 : c = 10
      · rw [c10, upd_eq, if_pos rfl]
      rw [if_neg c10, upd_ne (by omega), upd_ne (by omega), upd_ne (by omega), upd_ne (by omega), upd_ne (by omega), own c hc]
    rcases g2 with w | w
    · rw [if_neg (by rw [w]; decide)]
      simp only [Bool.not_false, cond_true]
      exact tail _ (key 0 (by rw [if_pos w])) (fun j hj => by rw [upd_ne (by omega), upd_ne (by omega), upd_ne (by omega), upd_ne (by omega), upd_ne (by omega)])
    · rw [if_pos (Int32.not_lt.mp (fun v => w (Or.inl v)))]
      simp only [Bool.not_false, cond_true]
      exact tail _ (key 1 (by rw [if_neg (fun v => by rw [v] at w; exact w (Or.inl (by decide)))])) (fun j hj => by rw [upd_ne (by omega), upd_ne (by omega), upd_ne (by omega), upd_ne (by omega), upd_ne (by omega)])
theorem st_open (h : RSt N P B Q day votes isOpen baskets lays recs fneed clos boatO seaO faultO daysO backB sailB plc car bnd bsk dyL rsn pastF pastN logF logN mW) (hs : RSu P B Q nums bNames pNames fBoats nB nP mPpl mBts mNum mNam mFst mBnm) (hh : RHi N P B Q hsN hsX hsF mUs mUn) (hN : N ≤ 600) (x : Int32) : (f_X11_open day votes isOpen baskets lays recs fneed clos boatO seaO faultO daysO backB sailB plc car bnd bsk dyL rsn pastF pastN logF logN hsN hsX hsF x).1 = (f_X12_open mPpl mUs mW mUn x).1 ∧ RSt (N + 1) P B Q day ((f_X11_open day votes isOpen baskets lays recs fneed clos boatO seaO faultO daysO backB sailB plc car bnd bsk dyL rsn pastF pastN logF logN hsN hsX hsF x).2.2.2.2.2.2.2.2.2.2.2.2.2.2.2.2) ((f_X11_open day votes isOpen baskets lays recs fneed clos boatO seaO faultO daysO backB sailB plc car bnd bsk dyL rsn pastF pastN logF logN hsN hsX hsF x).2.2.2.2.2.2.2.2.2.1) ((f_X11_open day votes isOpen baskets lays recs fneed clos boatO seaO faultO daysO backB sailB plc car bnd bsk dyL rsn pastF pastN logF logN hsN hsX hsF x).2.1) ((f_X11_open day votes isOpen baskets lays recs fneed clos boatO seaO faultO daysO backB sailB plc car bnd bsk dyL rsn pastF pastN logF logN hsN hsX hsF x).2.2.2.2.2.2.2.2.2.2.1) ((f_X11_open day votes isOpen baskets lays recs fneed clos boatO seaO faultO daysO backB sailB plc car bnd bsk dyL rsn pastF pastN logF logN hsN hsX hsF x).2.2.2.2.2.2.2.2.2.2.2.2.2.2.1) ((f_X11_open day votes isOpen baskets lays recs fneed clos boatO seaO faultO daysO backB sailB plc car bnd bsk dyL rsn pastF pastN logF logN hsN hsX hsF x).2.2.2.2.2.1) ((f_X11_open day votes isOpen baskets lays recs fneed clos boatO seaO faultO daysO backB sailB plc car bnd bsk dyL rsn pastF pastN logF logN hsN hsX hsF x).2.2.2.1) boatO seaO faultO daysO backB sailB ((f_X11_open day votes isOpen baskets lays recs fneed clos boatO seaO faultO daysO backB sailB plc car bnd bsk dyL rsn pastF pastN logF logN hsN hsX hsF x).2.2.2.2.2.2.2.2.2.2.2.2.2.1) car bnd ((f_X11_open day votes isOpen baskets lays recs fneed clos boatO seaO faultO daysO backB sailB plc car bnd bsk dyL rsn pastF pastN logF logN hsN hsX hsF x).2.2.1) ((f_X11_open day votes isOpen baskets lays recs fneed clos boatO seaO faultO daysO backB sailB plc car bnd bsk dyL rsn pastF pastN logF logN hsN hsX hsF x).2.2.2.2.1) ((f_X11_open day votes isOpen baskets lays recs fneed clos boatO seaO faultO daysO backB sailB plc car bnd bsk dyL rsn pastF pastN logF logN hsN hsX hsF x).2.2.2.2.2.2.2.2.2.2.2.2.2.2.2.1) pastF pastN ((f_X11_open day votes isOpen baskets lays recs fneed clos boatO seaO faultO daysO backB sailB plc car bnd bsk dyL rsn pastF pastN logF logN hsN hsX hsF x).2.2.2.2.2.2.2.2.2.2.2.1) ((f_X11_open day votes isOpen baskets lays recs fneed clos boatO seaO faultO daysO backB sailB plc car bnd bsk dyL rsn pastF pastN logF logN hsN hsX hsF x).2.2.2.2.2.2.2.2.2.2.2.2.1) ((f_X12_open mPpl mUs mW mUn x).2.2.2) ∧ RHi (N + 1) P B Q ((f_X11_open day votes isOpen baskets lays recs fneed clos boatO seaO faultO daysO backB sailB plc car bnd bsk dyL rsn pastF pastN logF logN hsN hsX hsF x).2.2.2.2.2.2.2.1) ((f_X11_open day votes isOpen baskets lays recs fneed clos boatO seaO faultO daysO backB sailB plc car bnd bsk dyL rsn pastF pastN logF logN hsN hsX hsF x).2.2.2.2.2.2.2.2.1) ((f_X11_open day votes isOpen baskets lays recs fneed clos boatO seaO faultO daysO backB sailB plc car bnd bsk dyL rsn pastF pastN logF logN hsN hsX hsF x).2.2.2.2.2.2.1) ((f_X12_open mPpl mUs mW mUn x).2.2.1) ((f_X12_open mPpl mUs mW mUn x).2.1) := by
  have hP := su_P hs
  have hB := hs.2.2.2.2.2.1
  unfold f_X11_open f_X12_open S_X11_open_33 S_X11_open_41
  rw [rs_open h]
  by_cases c1 : x < 2
  · have q : f_X12_in x.toInt64 2 4 = false := by
      cases w : f_X12_in x.toInt64 2 4
      · rfl
      · rw [in_iff, Int64.le_iff_toInt_le, Int32.toInt_toInt64, show (2 : Int64).toInt = 2 from rfl] at w
        have := Int32.lt_iff_toInt_lt.mp c1
        have h2 : (2 : Int32).toInt = 2 := rfl
        omega
    rw [q]
    simp only [if_pos c1, cond_false]
    exact ⟨trivial, h.mono (Nat.le_succ N) hP hB, hh.mono (Nat.le_succ N) hP hB⟩
  by_cases c2 : x ≤ 4
  · have c1' : ¬ x.toInt < (2 : Int32).toInt := fun w => c1 (Int32.lt_iff_toInt_lt.mpr w)
    have c2' := Int32.le_iff_toInt_le.mp c2
    have h2 : (2 : Int32).toInt = 2 := rfl
    have h4 : (4 : Int32).toInt = 4 := rfl
    have q : f_X12_in x.toInt64 2 4 = true := by
      rw [in_iff, Int64.le_iff_toInt_le, Int64.le_iff_toInt_le, Int32.toInt_toInt64, show (2 : Int64).toInt = 2 from rfl, show (4 : Int64).toInt = 4 from rfl]
      omega
    rw [q]
    simp only [if_neg c1, if_pos c2, cond_true]
    cases c3 : tb isOpen
    · simp only [cond_false]
      have hrem := ((hh.rem (t := (day, votes, isOpen, baskets, lays, recs, fneed, clos, boatO, seaO, faultO, daysO, backB, sailB, plc, car, bnd, bsk, dyL, rsn, pastF, pastN, logF, logN)) h hP hB).mono (Nat.le_succ N) hP hB)
      have hclamp : mPpl.toNatClampNeg = P := by rw [hs.2.1, nI_clamp (by omega)]
      obtain ⟨w1, w2⟩ := m_back h hP P (Nat.le_refl _)
      have ht := x_takeOut (plc := plc) (car := car) (bsk := bsk) (dyL := dyL) (rsn := rsn) 20 (Nat.le_refl _)
      obtain ⟨⟨a1, a2⟩, ⟨b1, b2⟩, ⟨d1, d2⟩, ⟨f1, f2⟩, ⟨l1, l2, l3⟩, ⟨m1, m2⟩, nn⟩ := h.1
      have hW1 : L_X12_open_32 mW P 1 = votes := (w2 1 (by decide)).trans b1
      have hlv : f_X10_latestVote (votes + 1) = votes := by
        unfold f_X10_latestVote
        exact Int32.add_sub_cancel _ _
      unfold f_X10_beginVote f_X8_beginVote f_X9_takeOut
      rw [hclamp, hW1, hlv]
      dsimp only
      generalize L_X9_takeOut_2 plc car bsk dyL rsn 20 = T at ht
      generalize L_X12_open_32 mW P = W at w1 w2
      have hoth : ∀ k, (k = 0 ∨ k = 4 ∨ k = 5 ∨ 8 ≤ k) → upd (upd (upd (upd (upd W 1 (votes + 1)) 2 1) 3 x) 6 0) 7 0 k = W k := fun k hk => by
        rw [upd_ne (by omega), upd_ne (by omega), upd_ne (by omega), upd_ne (by omega), upd_ne (by omega)]
      have v1 : upd (upd (upd (upd (upd W 1 (votes + 1)) 2 1) 3 x) 6 0) 7 0 1 = votes + 1 := by rw [upd_ne (by omega), upd_ne (by omega), upd_ne (by omega), upd_ne (by omega), upd_eq]
      have v2 : upd (upd (upd (upd (upd W 1 (votes + 1)) 2 1) 3 x) 6 0) 7 0 2 = 1 := by rw [upd_ne (by omega), upd_ne (by omega), upd_ne (by omega), upd_eq]
      have v3 : upd (upd (upd (upd (upd W 1 (votes + 1)) 2 1) 3 x) 6 0) 7 0 3 = x := by rw [upd_ne (by omega), upd_ne (by omega), upd_eq]
      have v6 : upd (upd (upd (upd (upd W 1 (votes + 1)) 2 1) 3 x) 6 0) 7 0 6 = 0 := by rw [upd_ne (by omega), upd_eq]
      have v7 : upd (upd (upd (upd (upd W 1 (votes + 1)) 2 1) 3 x) 6 0) 7 0 7 = 0 := upd_eq
      generalize upd (upd (upd (upd (upd W 1 (votes + 1)) 2 1) 3 x) 6 0) 7 0 = V at hoth v1 v2 v3 v6 v7
      have hQ : 0 < Q ∧ Q < 2 ^ 31 := su_Q hs
      have hbig : ∀ k, 229 ≤ k → V k = mW k := fun k hk => (hoth k (by omega)).trans (w2 k (Or.inr hk))
      have hl1 : RLg (30 * N) logF logN V := h.l.cong (Nat.le_refl _) ((hoth 8 (by omega)).trans (w2 8 (by omega))) (fun k h1 h2 => hbig k (by omega))
      have hx5 : vp_in x 5 := vp_in_iff.mpr (by omega)
      have hl2 := hl1.add (by omega) (((hoth 0 (by omega)).trans (w2 0 (by omega))).trans (rs_day h)) 2 votes x (lgV a2) (Or.inr (by decide)) (lgV b2) (lgV hx5)
      obtain ⟨ev, hv⟩ := vin_nI b2
      have hv1 : ¬ votes + 1 = 0 := by
        rw [ev, nI_1]
        exact nI_ne0 (by omega) (by omega)
      refine ⟨rfl, RSx.st (RSx.tells ?_ hl1.n hP hB _ _ _) (hl2.cong (by omega) rfl (fun _ _ _ => rfl)), hrem⟩
      refine ⟨⟨⟨((hoth 0 (by omega)).trans (w2 0 (by omega))).trans a1, vin_w a2 (by omega)⟩, ⟨v1, ?_⟩, ⟨v2, fun _ => hv1⟩, ⟨v3, hx5⟩, ⟨v7, vp_in_nI (n := 0) (by omega) (by omega), fun _ => rfl⟩, ⟨v6, vp_in_nI (n := 0) hQ.1 hQ.2⟩, fun q => absurd q (by decide)⟩, fun p hp => ?_, fun p hp hp2 => ?_, fun b hb => (h.2.2.2.1 b hb).congm (fun c hc => hbig _ (by omega)) (Nat.le_succ N), h.2.2.2.2.1, ?_⟩
      · rw [ev, nI_1]
        exact vp_in_nI (by omega) (by omega)
      · obtain ⟨r0, r1, ⟨r2, r2'⟩, ⟨r3, r3'⟩, r4, ⟨r5, r5'⟩, ⟨r6, r6', r6''⟩, r7, r8, ⟨r9, r9'⟩, r10, r11, ⟨r12, r12'⟩, r13, r14⟩ := h.2.1 p hp
        have hc : ∀ c, c < 11 → V (9 + 11 * p + c) = BV car mW p c := fun c hc => by rw [hoth _ (by omega), w1 p c (by omega) hc, if_pos hp]
        obtain ⟨t1, t2, t3, t4⟩ := ht p (by omega)
        have x0 : V (9 + 11 * p) = mW (9 + 11 * p) := hc 0 (by decide)
        have x1 : V (9 + 11 * p + 1) = mW (9 + 11 * p + 1) := hc 1 (by decide)
        have x2 : V (9 + 11 * p + 2) = mW (9 + 11 * p + 2) := hc 2 (by decide)
        have x3 : V (9 + 11 * p + 3) = mW (9 + 11 * p + 3) := hc 3 (by decide)
        have x4 : V (9 + 11 * p + 4) = 0 := hc 4 (by decide)
        have x5 : V (9 + 11 * p + 5) = if car p = -2 then 0 else 1 := hc 5 (by decide)
        have x6 : V (9 + 11 * p + 6) = mW (9 + 11 * p + 6) := hc 6 (by decide)
        have x7 : V (9 + 11 * p + 7) = mW (9 + 11 * p + 7) := hc 7 (by decide)
        have x8 : V (9 + 11 * p + 8) = -2 := hc 8 (by decide)
        have x9 : V (9 + 11 * p + 9) = -2 := hc 9 (by decide)
        have x10 : V (9 + 11 * p + 10) = 0 := hc 10 (by decide)
        have hz : cntB (fun o => (T.2.2.1 o == 2 || T.2.2.1 o == 3) && car o == nI p) P = 0 := by
          have : cntB (fun o => (T.2.2.1 o == 2 || T.2.2.1 o == 3) && car o == nI p) P = cntB (fun _ => false) P := cntB_cong (fun o ho => by
            rw [(ht o (by omega)).2.2.1]
            by_cases q : car o = -2
            · rw [if_pos q]
              rfl
            · rw [if_neg q]
              rfl)
          rw [this]
          have h0 : ∀ n, cntB (fun _ => false) n = 0 := fun n => by
            induction n with
            | zero => rfl
            | succ n ih => rw [cntB, ih]; rfl
          exact h0 P
        unfold RPe
        rw [hz, x0, x1, x2, x3, x4, x5, x6, x7, x8, x9, x10, t1, t2, t3, t4]
        have v4 : vp_in (if car p = -2 then (0 : Int32) else 1) 4 := by
          by_cases q : car p = -2
          · rw [if_pos q]
            exact vin_d (by decide)
          · rw [if_neg q]
            exact vin_d (by decide)
        refine ⟨r0, r1, ⟨r2, r2'⟩, ⟨r3, vin_w r3' (by omega)⟩, rfl, ⟨rfl, v4⟩, ⟨r6, r6', r6''⟩, fun q => ?_, fun q => ?_, ⟨r9, r9'⟩, rfl, rfl, ⟨rfl, vin_d (by decide)⟩, fun _ => ⟨rfl, rfl, rfl⟩, fun q => ?_⟩
        · by_cases w : car p = -2
          · exact w
          · rw [if_neg w] at q
            exact absurd q (by decide)
        · rcases r6' with w | w
          · rw [if_pos w] at q
            exact absurd q (by decide)
          · exact w
        · by_cases w : car p = -2
          · rw [if_pos w] at q
            rcases q with q | q <;> exact absurd q (by decide)
          · rw [if_neg w] at q
            rcases q with q | q <;> exact absurd q (by decide)
      · obtain ⟨r1, r2, r3, r4, r5, r6, r7, r8, r9, r10⟩ := h.2.2.1 p hp hp2
        obtain ⟨t1, t2, t3, t4⟩ := ht p hp2
        rw [if_pos r6] at t3
        exact ⟨r1, r2, r3, r4, t3, r6, t1, t2, t4, fun c hc => by rw [hoth _ (by omega), w1 p c hp2 hc, if_neg (by omega)]; exact r10 c hc⟩
      · obtain ⟨a, v, e1, ⟨e2, e2'⟩, e3, -, e4⟩ := h.2.2.2.2.2.1
        rw [c3] at e3
        refine ⟨a, v + 1, e1, ⟨by rw [e2, nI_1], ?_⟩, ?_, fun q => absurd q (by decide), fun k c h1 h2 h3 => (hbig _ (by omega)).trans (e4 k c h1 h2 h3)⟩
        · rw [e2, nI_clamp (by omega)] at hv
          omega
        · show v + 1 = a + 1
          have : v = a + 0 := e3
          omega
    · simp only [cond_true]
      exact ⟨trivial, h.mono (Nat.le_succ N) hP hB, hh.mono (Nat.le_succ N) hP hB⟩
  · have c2' : ¬ x.toInt ≤ (4 : Int32).toInt := fun w => c2 (Int32.le_iff_toInt_le.mpr w)
    have q : f_X12_in x.toInt64 2 4 = false := by
      cases w : f_X12_in x.toInt64 2 4
      · rfl
      · rw [in_iff, Int64.le_iff_toInt_le, Int64.le_iff_toInt_le, Int32.toInt_toInt64, show (4 : Int64).toInt = 4 from rfl] at w
        have h2 : (4 : Int32).toInt = 4 := rfl
        omega
    rw [q]
    simp only [if_neg c1, if_neg c2, cond_false]
    exact ⟨trivial, h.mono (Nat.le_succ N) hP hB, hh.mono (Nat.le_succ N) hP hB⟩
end O5
