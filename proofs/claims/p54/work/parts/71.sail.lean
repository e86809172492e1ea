section O1
variable {N M P B Q A : Nat} {day votes isOpen baskets lays recs fneed clos pastN logN : Int32} {boatO seaO faultO daysO backB sailB plc car bnd bsk dyL rsn pastF logF mW mW2 : Nat → Int32}
variable {nums bNames pNames fBoats : Nat → Int32} {nB nP mPpl mBts : Int32} {mNum mNam mFst mBnm : Nat → Int32}
variable {hsN hsX mUs : Int32} {hsF : Nat → StT} {mUn : Nat → Int32}
theorem m_sail (hP : P ≤ 20) (b : Int32) : ∀ n, n ≤ P → (L_X12_sail_42 mW b n).1 = nI (cntB (fun o => decide (mW (9 + 11 * o) = b) && !decide (0 ≤ mW (9 + 11 * o + 1))) n) ∧ (∀ p c, p < 20 → c < 11 → (L_X12_sail_42 mW b n).2 (9 + 11 * p + c) = if c = 1 ∧ p < n ∧ mW (9 + 11 * p) = b ∧ ¬ 0 ≤ mW (9 + 11 * p + 1) then b else mW (9 + 11 * p + c)) ∧ ∀ j, (j < 9 ∨ 229 ≤ j) → (L_X12_sail_42 mW b n).2 j = mW j := by
  refine iter_inv (fun n (s : Int32 × (Nat → Int32)) => s.1 = nI (cntB (fun o => decide (mW (9 + 11 * o) = b) && !decide (0 ≤ mW (9 + 11 * o + 1))) n) ∧ (∀ p c, p < 20 → c < 11 → s.2 (9 + 11 * p + c) = if c = 1 ∧ p < n ∧ mW (9 + 11 * p) = b ∧ ¬ 0 ≤ mW (9 + 11 * p + 1) then b else mW (9 + 11 * p + c)) ∧ ∀ j, (j < 9 ∨ 229 ≤ j) → s.2 j = mW j) ⟨rfl, fun p c hp hc => ?_, fun j hj => rfl⟩ (fun n s hn hI => ?_)
  · rw [if_neg (by omega)]
  · obtain ⟨i1, i2, i3⟩ := hI
    have e0 : f_X12_of s.2 (nI n) 0 = mW (9 + 11 * n) := by
      rw [of_0 (by omega), i2 n 0 (by omega) (by decide), if_neg (by omega)]
      rfl
    have e1 : f_X12_isAtSea s.2 (nI n) = decide (0 ≤ mW (9 + 11 * n + 1)) := by
      rw [m_sea (by omega), i2 n 1 (by omega) (by decide), if_neg (by omega)]
    rw [e0, e1, show S_X12_sail_76 mW b n s = upd s.2 (9 + 11 * n + 1) b from sets_N (c := 1) (by omega) (by decide)]
    have no : ¬ (mW (9 + 11 * n) = b ∧ ¬ 0 ≤ mW (9 + 11 * n + 1)) → ∀ p c, p < 20 → c < 11 → s.2 (9 + 11 * p + c) = if c = 1 ∧ p < n + 1 ∧ mW (9 + 11 * p) = b ∧ ¬ 0 ≤ mW (9 + 11 * p + 1) then b else mW (9 + 11 * p + c) := fun q p c hp hc => by
      rw [i2 p c hp hc]
      by_cases w : c = 1 ∧ p < n ∧ mW (9 + 11 * p) = b ∧ ¬ 0 ≤ mW (9 + 11 * p + 1)
      · rw [if_pos w, if_pos ⟨w.1, by omega, w.2.2⟩]
      · rw [if_neg w, if_neg (fun v => by
          by_cases y : p = n
          · rw [y] at v
            exact q v.2.2
          · exact w ⟨v.1, by omega, v.2.2⟩)]
    by_cases q : mW (9 + 11 * n) = b
    · rw [if_pos q]
      by_cases q1 : 0 ≤ mW (9 + 11 * n + 1)
      · rw [decide_eq_true q1]
        refine ⟨?_, no (fun z => z.2 q1), i3⟩
        rw [cntB, decide_eq_true q1, Bool.not_true, Bool.and_false]
        exact i1
      · rw [decide_eq_false q1]
        refine ⟨?_, fun p c hp hc => ?_, fun j hj => ?_⟩
        · rw [cntB, decide_eq_true q, decide_eq_false q1]
          show s.1 + 1 = nI (_ + 1)
          rw [i1, nI_1]
        · show upd s.2 (9 + 11 * n + 1) b (9 + 11 * p + c) = _
          by_cases z : p = n ∧ c = 1
          · rw [z.1, z.2, upd_eq, if_pos ⟨rfl, by omega, q, q1⟩]
          · rw [upd_ne (by omega), i2 p c hp hc]
            by_cases w : c = 1 ∧ p < n ∧ mW (9 + 11 * p) = b ∧ ¬ 0 ≤ mW (9 + 11 * p + 1)
            · rw [if_pos w, if_pos ⟨w.1, by omega, w.2.2⟩]
            · rw [if_neg w, if_neg (fun v => w ⟨v.1, by omega, v.2.2⟩)]
        · show upd s.2 (9 + 11 * n + 1) b j = _
          rw [upd_ne (by omega), i3 j hj]
    · rw [if_neg q]
      refine ⟨?_, no (fun z => q z.1), i3⟩
      rw [cntB, decide_eq_false q]
      exact i1
theorem st_sail (h : RSt N P B Q day votes isOpen baskets lays recs fneed clos boatO seaO faultO daysO backB sailB plc car bnd bsk dyL rsn pastF pastN logF logN mW) (hs : RSu P B Q nums bNames pNames fBoats nB nP mPpl mBts mNum mNam mFst mBnm) (hh : RHi N P B Q hsN hsX hsF mUs mUn) (hN : N ≤ 600) (x y : Int32) : (f_X11_sail nB day votes isOpen baskets lays recs fneed clos boatO seaO faultO daysO backB sailB plc car bnd bsk dyL rsn pastF pastN logF logN hsN hsX hsF x y).1 = (f_X12_sail mPpl mBts mUs mW mUn x y).1 ∧ RSt (N + 1) P B Q day votes isOpen baskets lays recs fneed clos boatO ((f_X11_sail nB day votes isOpen baskets lays recs fneed clos boatO seaO faultO daysO backB sailB plc car bnd bsk dyL rsn pastF pastN logF logN hsN hsX hsF x y).2.2.2.2.2.2.2.2) faultO daysO ((f_X11_sail nB day votes isOpen baskets lays recs fneed clos boatO seaO faultO daysO backB sailB plc car bnd bsk dyL rsn pastF pastN logF logN hsN hsX hsF x y).2.1) ((f_X11_sail nB day votes isOpen baskets lays recs fneed clos boatO seaO faultO daysO backB sailB plc car bnd bsk dyL rsn pastF pastN logF logN hsN hsX hsF x y).2.2.2.2.2.2.2.1) plc car bnd bsk dyL rsn pastF pastN ((f_X11_sail nB day votes isOpen baskets lays recs fneed clos boatO seaO faultO daysO backB sailB plc car bnd bsk dyL rsn pastF pastN logF logN hsN hsX hsF x y).2.2.2.2.2.1) ((f_X11_sail nB day votes isOpen baskets lays recs fneed clos boatO seaO faultO daysO backB sailB plc car bnd bsk dyL rsn pastF pastN logF logN hsN hsX hsF x y).2.2.2.2.2.2.1) ((f_X12_sail mPpl mBts mUs mW mUn x y).2.2.2) ∧ RHi (N + 1) P B Q ((f_X11_sail nB day votes isOpen baskets lays recs fneed clos boatO seaO faultO daysO backB sailB plc car bnd bsk dyL rsn pastF pastN logF logN hsN hsX hsF x y).2.2.2.1) ((f_X11_sail nB day votes isOpen baskets lays recs fneed clos boatO seaO faultO daysO backB sailB plc car bnd bsk dyL rsn pastF pastN logF logN hsN hsX hsF x y).2.2.2.2.1) ((f_X11_sail nB day votes isOpen baskets lays recs fneed clos boatO seaO faultO daysO backB sailB plc car bnd bsk dyL rsn pastF pastN logF logN hsN hsX hsF x y).2.2.1) ((f_X12_sail mPpl mBts mUs mW mUn x y).2.2.1) ((f_X12_sail mPpl mBts mUs mW mUn x y).2.1) := by
  have hP := su_P hs
  have hB := hs.2.2.2.2.2.1
  unfold f_X11_sail f_X12_sail S_X11_sail_42 S_X11_sail_51 S_X12_sail_34
  rw [eq_isBoat hs, isDays_eq]
  cases c1 : f_X12_isBoat mBts x
  · simp only [cond_false]
    exact ⟨trivial, h.mono (Nat.le_succ N) hP hB, hh.mono (Nat.le_succ N) hP hB⟩
  cases c2 : f_X12_in y.toInt64 1 99
  · simp only [cond_true, cond_false]
    exact ⟨trivial, h.mono (Nat.le_succ N) hP hB, hh.mono (Nat.le_succ N) hP hB⟩
  obtain ⟨i, rfl, hi⟩ := boat_n hs c1
  obtain ⟨d, rfl, hd1, hd2⟩ := days_n c2
  rw [eq_out h hB hi]
  cases c3 : f_X12_isOut mW (nI i)
  · simp only [cond_true, cond_false]
    have hhome : backB i = 0 := by
      rw [← eq_out h hB hi, x_out (by omega)] at c3
      cases q : (backB i == 0)
      · rw [q] at c3
        exact absurd c3 (by decide)
      · exact eq_of_beq q
    have hx := x_leave (boatO := boatO) (seaO := seaO) (backB := backB) (sailB := sailB) (b := nI i) (d := day + nI d) (i := i) (by omega) rfl
    obtain ⟨c4, c5, c6⟩ := m_sail (P := P) (mW := mW) hP (nI i) P (Nat.le_refl _)
    have hclamp : mPpl.toNatClampNeg = P := by rw [hs.2.1, nI_clamp (by omega)]
    have hash : ∀ p, p < P → boatO p = nI i → seaO p = 0 ∧ mW (9 + 11 * p + 1) = -2 := fun p hp q => by
      rcases (h.2.1 p hp).2.1 with z | ⟨-, -, h3, h4⟩
      · exact z
      · rw [q, nI_clamp (by omega)] at h4
        exact absurd hhome h4
    have hcnt : nI (cntB (fun o => decide (boatO o = nI i)) 20) = (L_X12_sail_42 mW (nI i) P).1 := by
      rw [c4, cntB_ext _ hP (fun o h1 h2 => by rw [(h.2.2.1 o h1 h2).1]; exact decide_eq_false (fun z => ne_m2 (by omega) z.symm))]
      refine congrArg nI (cntB_cong (fun o ho => ?_))
      rw [rs_boatO h ho]
      by_cases q : boatO o = nI i
      · rw [(hash o ho q).2, decide_eq_true q]
        rfl
      · rw [decide_eq_false q]
        rfl
    have hW : S_X12_sail_132 mPpl mW (nI i) (nI d) = f_X12_tells (upd (upd (upd (L_X12_sail_42 mW (nI i) P).2 (229 + 3 * i + 0) 1) (229 + 3 * i + 1) (day + nI d)) (229 + 3 * i + 2) (sailB i + 1)) 0 (nI i) (day + nI d) := by
      have s92 : S_X12_sail_92 mPpl mW (nI i) = upd (L_X12_sail_42 mW (nI i) P).2 (229 + 3 * i + 0) 1 := by
        unfold S_X12_sail_92
        rw [hclamp]
        exact setsB_N (c := 0) (by omega) (by decide)
      have s106 : S_X12_sail_106 mPpl mW (nI i) (nI d) = upd (upd (L_X12_sail_42 mW (nI i) P).2 (229 + 3 * i + 0) 1) (229 + 3 * i + 1) (day + nI d) := by
        unfold S_X12_sail_106
        rw [s92]
        refine (setsB_N (c := 1) (by omega) (by decide)).trans ?_
        rw [upd_ne (by omega), c6 0 (by omega), rs_day h]
      have s120 : S_X12_sail_120 mPpl mW (nI i) (nI d) = upd (upd (upd (L_X12_sail_42 mW (nI i) P).2 (229 + 3 * i + 0) 1) (229 + 3 * i + 1) (day + nI d)) (229 + 3 * i + 2) (sailB i + 1) := by
        unfold S_X12_sail_120
        rw [s106]
        refine (setsB_N (c := 2) (by omega) (by decide)).trans ?_
        rw [ofB_2 (by omega), upd_ne (by omega), upd_ne (by omega), c6 _ (by omega), (h.2.2.2.1 i hi).2.1]
      unfold S_X12_sail_132
      rw [s120, ofB_1 (by omega), upd_ne (by omega), upd_eq]
    unfold f_X10_setOut
    rw [hx, hW]
    dsimp only
    rw [hclamp]
    have hrem := ((hh.rem (t := (day, votes, isOpen, baskets, lays, recs, fneed, clos, boatO, seaO, faultO, daysO, backB, sailB, plc, car, bnd, bsk, dyL, rsn, pastF, pastN, logF, logN)) h hP hB).mono (Nat.le_succ N) hP hB)
    refine ⟨hcnt, ?_, hrem⟩
    obtain ⟨n, en, hn⟩ := rs_day_n h
    generalize (L_X12_sail_42 mW (nI i) P).2 = W at c5 c6
    have hcell : ∀ p c, p < 20 → c < 11 → upd (upd (upd W (229 + 3 * i + 0) 1) (229 + 3 * i + 1) (day + nI d)) (229 + 3 * i + 2) (sailB i + 1) (9 + 11 * p + c) = if c = 1 ∧ p < P ∧ mW (9 + 11 * p) = nI i ∧ ¬ 0 ≤ mW (9 + 11 * p + 1) then nI i else mW (9 + 11 * p + c) := fun p c hp hc => by
      rw [upd_ne (by omega), upd_ne (by omega), upd_ne (by omega), c5 p c hp hc]
    have hoth : ∀ j, (j < 9 ∨ 247 ≤ j) → upd (upd (upd W (229 + 3 * i + 0) 1) (229 + 3 * i + 1) (day + nI d)) (229 + 3 * i + 2) (sailB i + 1) j = mW j := fun j hj => by
      rw [upd_ne (by omega), upd_ne (by omega), upd_ne (by omega), c6 j (by omega)]
    have hbt : ∀ b c, b < 6 → c < 3 → b ≠ i → upd (upd (upd W (229 + 3 * i + 0) 1) (229 + 3 * i + 1) (day + nI d)) (229 + 3 * i + 2) (sailB i + 1) (229 + 3 * b + c) = mW (229 + 3 * b + c) := fun b c hb hc hne => by
      rw [upd_ne (by omega), upd_ne (by omega), upd_ne (by omega), c6 _ (by omega)]
    have hb0 : upd (upd (upd W (229 + 3 * i + 0) 1) (229 + 3 * i + 1) (day + nI d)) (229 + 3 * i + 2) (sailB i + 1) (229 + 3 * i + 0) = 1 := by rw [upd_ne (by omega), upd_ne (by omega), upd_eq]
    have hb1 : upd (upd (upd W (229 + 3 * i + 0) 1) (229 + 3 * i + 1) (day + nI d)) (229 + 3 * i + 2) (sailB i + 1) (229 + 3 * i + 1) = day + nI d := by rw [upd_ne (by omega), upd_eq]
    have hb2 : upd (upd (upd W (229 + 3 * i + 0) 1) (229 + 3 * i + 1) (day + nI d)) (229 + 3 * i + 2) (sailB i + 1) (229 + 3 * i + 2) = sailB i + 1 := upd_eq
    generalize upd (upd (upd W (229 + 3 * i + 0) 1) (229 + 3 * i + 1) (day + nI d)) (229 + 3 * i + 2) (sailB i + 1) = V at hcell hoth hbt hb0 hb1 hb2
    have hl1 : RLg (30 * N) logF logN V := h.l.cong (Nat.le_refl _) (hoth 8 (by omega)) (fun j h1 h2 => hoth j (by omega))
    have hl2 := (hl1.add (by omega) ((hoth 0 (by omega)).trans (rs_day h)) 0 (nI i) (day + nI d) (lgV h.1.1.2) (Or.inr (by decide)) (lgK (by omega)) (by rw [en, nI_add]; exact lgK (by omega)))
    have hdp : ¬ day + nI d = 0 := by
      rw [en, nI_add]
      exact nI_ne0 (by omega) (by omega)
    refine RSx.st (RSx.tells ?_ hl1.n hP hB _ _ _) (hl2.cong (by omega) rfl (fun _ _ _ => rfl))
    refine ⟨h.1.congm (fun j hj => hoth j (by omega)) (Nat.le_succ N), fun p hp => ?_, fun p hp hp2 => ?_, fun b hb => ?_, fun b hb hb6 => ?_, h.2.2.2.2.2.1.congm (fun j h1 h2 => hoth j (by omega))⟩
    · have rp := h.2.1 p hp
      have s20 : (if p < 20 then (if boatO p = nI i then (1 : Int32) else seaO p) else seaO p) = if boatO p = nI i then 1 else seaO p := if_pos (by omega)
      refine rp.sea ⟨?_, rp.1.2⟩ ?_ (fun c h1 h2 => by rw [hcell p c (by omega) h2, if_neg (by omega)]) (Nat.le_succ N)
      · have := hcell p 0 (by omega) (by decide)
        rw [if_neg (by omega)] at this
        exact this.trans rp.1.1
      · rw [hcell p 1 (by omega) (by decide)]
        show ((if p < 20 then (if boatO p = nI i then (1 : Int32) else seaO p) else seaO p) = 0 ∧ _) ∨ (¬ (if p < 20 then (if boatO p = nI i then (1 : Int32) else seaO p) else seaO p) = 0 ∧ _)
        rw [s20]
        by_cases q : boatO p = nI i
        · rw [if_pos q, if_pos ⟨rfl, hp, (rs_boatO h hp).trans q, by rw [(hash p hp q).2]; decide⟩, q]
          refine Or.inr ⟨by decide, rfl, vp_in_nI hi (by omega), ?_⟩
          rw [nI_clamp (by omega), upd_eq]
          exact hdp
        · rw [if_neg q, if_neg (fun z => q ((rs_boatO h hp).symm.trans z.2.2.1))]
          rcases rp.2.1 with z | ⟨h1, h2, h3, h4⟩
          · exact Or.inl z
          · refine Or.inr ⟨h1, h2, h3, ?_⟩
            obtain ⟨e, hb⟩ := vin_nI h3
            rw [upd_ne (fun z => q (by rw [e, z]))]
            exact h4
    · obtain ⟨a1, a2, a3, a4, a5, a6, a7, a8, a9, a10⟩ := h.2.2.1 p hp hp2
      refine ⟨a1, ?_, a3, a4, a5, a6, a7, a8, a9, fun c hc => ?_⟩
      · show (if p < 20 then (if boatO p = nI i then (1 : Int32) else seaO p) else seaO p) = 0
        rw [if_pos hp2, a1, if_neg (fun z => ne_m2 (by omega) z.symm)]
        exact a2
      · rw [hcell p c hp2 hc, if_neg (by omega)]
        exact a10 c hc
    · have rb := h.2.2.2.1 b hb
      by_cases q : b = i
      · subst q
        obtain ⟨es, hs2⟩ := vin_nI rb.2.2
        refine ⟨Or.inr ⟨hb0, ?_, ?_, ?_⟩, ?_, ?_⟩
        · rw [hb1, upd_eq]
        · rw [upd_eq, en, nI_add]
          exact vp_in_nI (by omega) (by omega)
        · rw [upd_eq, en, nI_add]
          exact nI_lt (by omega) (by omega)
        · rw [hb2, upd_eq]
        · rw [upd_eq, es, nI_1]
          exact vp_in_nI (by omega) (by omega)
      · unfold RBo
        rw [upd_ne q, upd_ne q, show V (229 + 3 * b) = mW (229 + 3 * b) from hbt b 0 (by omega) (by decide) q, hbt b 1 (by omega) (by decide) q, hbt b 2 (by omega) (by decide) q]
        refine ⟨?_, rb.2.1, vin_w rb.2.2 (by omega)⟩
        rcases rb.1 with z | ⟨z1, z2, z3, z4⟩
        · exact Or.inl z
        · exact Or.inr ⟨z1, z2, vin_w z3 (by omega), z4⟩
    · rw [upd_ne (by omega)]
      exact h.2.2.2.2.1 b hb hb6
  · simp only [cond_true]
    exact ⟨trivial, h.mono (Nat.le_succ N) hP hB, hh.mono (Nat.le_succ N) hP hB⟩
end O1
