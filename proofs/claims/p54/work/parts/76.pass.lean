section O6
variable {N M P B Q A : Nat} {day votes isOpen baskets lays recs fneed clos pastN logN : Int32} {boatO seaO faultO daysO backB sailB plc car bnd bsk dyL rsn pastF logF mW mW2 : Nat → Int32}
variable {nums bNames pNames fBoats : Nat → Int32} {nB nP mPpl mBts : Int32} {mNum mNam mFst mBnm : Nat → Int32}
variable {hsN hsX mUs : Int32} {hsF : Nat → StT} {mUn : Nat → Int32}
theorem x_countDay : f_X2_countDayAtSea seaO daysO = fun j => if j < 20 then (if seaO j = 0 then daysO j else daysO j + 1) else daysO j :=
  iter_row (N := 20) (g := fun n s => if seaO n = 0 then s else s + 1) (fun n s hn => by
    rw [x_sea hn, x_daysO hn, setCell_nI (by decide) hn]
    by_cases q : seaO n = 0
    · rw [q, if_pos rfl, upd_self]
      rfl
    · rw [beq_false_of_ne q, if_neg q]
      rfl) daysO 20 (Nat.le_refl _)
theorem m_dayLoop (hP : P ≤ 20) : ∀ n, n ≤ P → (∀ p c, p < 20 → c < 11 → L_X12_passes_12 mW n (9 + 11 * p + c) = if c = 3 ∧ p < n then (bif decide (0 ≤ mW (9 + 11 * p + 1)) then mW (9 + 11 * p + 3) + 1 else mW (9 + 11 * p + 3)) else mW (9 + 11 * p + c)) ∧ (L_X12_passes_12 mW n 0 = mW 0 + 1) ∧ ∀ j, (j ≠ 0 ∧ j < 9 ∨ 229 ≤ j) → L_X12_passes_12 mW n j = mW j := by
  refine iter_inv (fun n (s : Nat → Int32) => (∀ p c, p < 20 → c < 11 → s (9 + 11 * p + c) = if c = 3 ∧ p < n then (bif decide (0 ≤ mW (9 + 11 * p + 1)) then mW (9 + 11 * p + 3) + 1 else mW (9 + 11 * p + 3)) else mW (9 + 11 * p + c)) ∧ (s 0 = mW 0 + 1) ∧ ∀ j, (j ≠ 0 ∧ j < 9 ∨ 229 ≤ j) → s j = mW j) ⟨fun p c _ _ => by rw [if_neg (by omega), upd_ne (by omega)], upd_eq, fun j hj => upd_ne (by omega)⟩ (fun n s hn hI => ?_)
  obtain ⟨i1, i2, i3⟩ := hI
  have hn20 : n < 20 := by omega
  have e1 : f_X12_isAtSea s (nI n) = decide (0 ≤ mW (9 + 11 * n + 1)) := by rw [m_sea hn20, i1 n 1 hn20 (by decide), if_neg (by omega)]
  have e3 : f_X12_of s (nI n) 3 = mW (9 + 11 * n + 3) := by rw [of_3 hn20, i1 n 3 hn20 (by decide), if_neg (by omega)]
  have eS : ∀ v : Int32, f_X12_sets s (nI n) 3 v = upd s (9 + 11 * n + 3) v := fun v => sets_N (c := 3) hn20 (by decide)
  rw [e1, e3, Int32.add_zero, eS, eS]
  have tail : ∀ v : Int32, v = (bif decide (0 ≤ mW (9 + 11 * n + 1)) then mW (9 + 11 * n + 3) + 1 else mW (9 + 11 * n + 3)) → (∀ p c, p < 20 → c < 11 → upd s (9 + 11 * n + 3) v (9 + 11 * p + c) = if c = 3 ∧ p < n + 1 then (bif decide (0 ≤ mW (9 + 11 * p + 1)) then mW (9 + 11 * p + 3) + 1 else mW (9 + 11 * p + 3)) else mW (9 + 11 * p + c)) ∧ (upd s (9 + 11 * n + 3) v 0 = mW 0 + 1) ∧ ∀ j, (j ≠ 0 ∧ j < 9 ∨ 229 ≤ j) → upd s (9 + 11 * n + 3) v j = mW j := fun v hv => by
    refine ⟨fun p c hp hc => ?_, (upd_ne (by omega)).trans i2, fun j hj => (upd_ne (by omega)).trans (i3 j hj)⟩
    by_cases z : p = n ∧ c = 3
    · rw [z.1, z.2, upd_eq, if_pos ⟨rfl, by omega⟩]
      exact hv
    · rw [upd_ne (by omega), i1 p c hp hc]
      by_cases w : c = 3 ∧ p < n
      · rw [if_pos w, if_pos ⟨w.1, by omega⟩]
      · rw [if_neg w, if_neg (by omega)]
  cases q : decide (0 ≤ mW (9 + 11 * n + 1))
  · simp only [cond_false]
    exact tail _ (by simp [q])
  · simp only [cond_true]
    exact tail _ (by simp [q])
/-- how many boats are out -/
def outN (backB : Nat → Int32) : Nat := cntB (fun b => !(backB b == 0)) 6
theorem outN_le (b : Nat → Int32) : outN b ≤ 6 := cntB_le _ _
theorem outN_upd {i : Nat} (hi : i < 6) (ho : ¬ backB i = 0) : outN (upd backB i 0) + 1 = outN backB := by
  have key : ∀ n, cntB (fun b => !(upd backB i 0 b == 0)) n + (if i < n then 1 else 0) = cntB (fun b => !(backB b == 0)) n := fun n => by
    induction n with
    | zero => rw [if_neg (by omega)]; rfl
    | succ n ih =>
      rw [cntB, cntB, ← ih]
      by_cases e : n = i
      · subst e
        rw [upd_eq, beq_false_of_ne ho, if_pos (by omega), if_neg (by omega)]
        simp
      · rw [upd_ne e]
        by_cases q : i < n
        · rw [if_pos q, if_pos (by omega)]
          omega
        · rw [if_neg q, if_neg (by omega)]
          omega
  have := key 6
  rw [if_pos hi] at this
  exact this
/-- two loops side by side -/
theorem iter2 {σ τ : Type} {f : Nat → σ → σ} {g : Nat → τ → τ} {a : σ} {b : τ} (I : Nat → σ → τ → Prop) {N : Nat} (h0 : I 0 a b) (hs : ∀ n s t, n < N → I n s t → I (n + 1) (f n s) (g n t)) : ∀ n, n ≤ N → I n (iter_ f a n) (iter_ g b n)
  | 0, _ => by rw [iter_z, iter_z]; exact h0
  | n + 1, hn => by rw [iter_s, iter_s]; exact hs n _ _ (by omega) (iter2 I h0 hs n (by omega))
def mToday (mPpl : Int32) (mW : Nat → Int32) : Nat → Int32 × (Nat → Int32) := iter_ (fun n sn => (bif (f_X12_isOut (sn.2) (nI n)) then (if (f_X12_ofBoat (sn.2) (nI n) 1) = (sn.2 0) then ((sn.1 + (f_X12_comesHome mPpl (sn.2) (nI n)).1), (f_X12_comesHome mPpl (sn.2) (nI n)).2) else ((sn.1 + 0), sn.2)) else ((sn.1 + 0), sn.2))) (0, mW)
/-- today's boats come home -/
theorem st_todays {dl day2 : Int32} {m K : Nat} (hdl : dl = nI m) (hm : m < 1000000) (hd2 : day2 = nI (m + 1)) (h : RSy M P B Q dl day2 votes isOpen baskets lays recs fneed clos boatO seaO faultO daysO backB sailB plc car bnd bsk dyL rsn pastF pastN mW) (hl : RLg A logF logN mW) (hA : A + outN backB ≤ K) (hK : K < 100000) (hP : P ≤ 20) (hB : B ≤ 6) : ∀ n, n ≤ B →
    (L_X10_bringHomeTodays_4 day2 boatO seaO backB logF logN n).1 = (mToday (nI P) mW n).1 ∧ ∃ A2, RSy M P B Q dl day2 votes isOpen baskets lays recs fneed clos boatO (L_X10_bringHomeTodays_4 day2 boatO seaO backB logF logN n).2.2.2.2 faultO daysO (L_X10_bringHomeTodays_4 day2 boatO seaO backB logF logN n).2.1 sailB plc car bnd bsk dyL rsn pastF pastN (mToday (nI P) mW n).2 ∧
    RLg A2 (L_X10_bringHomeTodays_4 day2 boatO seaO backB logF logN n).2.2.1 (L_X10_bringHomeTodays_4 day2 boatO seaO backB logF logN n).2.2.2.1 (mToday (nI P) mW n).2 ∧ A2 + outN (L_X10_bringHomeTodays_4 day2 boatO seaO backB logF logN n).2.1 ≤ K ∧ ∀ b, b < n → ¬ (L_X10_bringHomeTodays_4 day2 boatO seaO backB logF logN n).2.1 b = day2 := by
  refine iter2 (fun n (s : Int32 × (Nat → Int32) × (Nat → Int32) × Int32 × (Nat → Int32)) (t : Int32 × (Nat → Int32)) => s.1 = t.1 ∧ ∃ A2, RSy M P B Q dl day2 votes isOpen baskets lays recs fneed clos boatO s.2.2.2.2 faultO daysO s.2.1 sailB plc car bnd bsk dyL rsn pastF pastN t.2 ∧ RLg A2 s.2.2.1 s.2.2.2.1 t.2 ∧ A2 + outN s.2.1 ≤ K ∧ ∀ b, b < n → ¬ s.2.1 b = day2) ⟨rfl, A, h, hl, hA, fun b hb => absurd hb (by omega)⟩ (fun n s t hn hI => ?_)
  obtain ⟨i1, A2, i2, i3, i4, i5⟩ := hI
  obtain ⟨c, bk, lf, ln, se⟩ := s
  obtain ⟨c', W⟩ := t
  dsimp only at i1 i2 i3 i4 i5 ⊢
  have hn6 : n < 6 := by omega
  have hW0 : W 0 = day2 := i2.1.1.1
  simp only [x_out hn6, x_backB hn6, m_out hn6, ofB_1 hn6, hW0, Int32.add_zero]
  have hday : ¬ (0 : Int32) = day2 := by
    rw [hd2]
    exact fun z => nI_ne0 (n := m + 1) (by omega) (by omega) z.symm
  rcases (i2.2.2.2.1 n hn).1 with ⟨z1, z2⟩ | ⟨z1, z2, z3, z4⟩
  · rw [z1, z2]
    refine ⟨i1, A2, i2, i3, i4, fun b hb => ?_⟩
    by_cases e : b = n
    · rw [e]
      show ¬ bk n = day2
      rw [z2]
      exact hday
    · exact i5 b (by omega)
  · obtain ⟨e, he⟩ := vin_nI z3
    have hnz : ¬ bk n = 0 := by
      intro w
      rw [w, hdl] at z4
      exact absurd z4 (nI_pos (by omega))
    rw [z1, z2, beq_false_of_ne hnz]
    by_cases q : bk n = day2
    · simp only [Bool.not_false, cond_true, beq_self_eq_true, if_pos q]
      obtain ⟨k1, k2, k3, k4⟩ := st_homeY i2 i3 (by omega) hP hB hn hnz
      refine ⟨by rw [i1, k1], A2 + 1, k2, k3, ?_, fun b hb => ?_⟩
      · rw [k4]
        have := outN_upd hn6 hnz
        omega
      · rw [k4]
        by_cases e2 : b = n
        · rw [e2, upd_eq]
          exact hday
        · rw [upd_ne e2]
          exact i5 b (by omega)
    · simp only [Bool.not_false, cond_true, beq_self_eq_true, if_neg q]
      refine ⟨i1, A2, i2, i3, i4, fun b hb => ?_⟩
      by_cases e2 : b = n
      · rw [e2]
        exact q
      · exact i5 b (by omega)
theorem x_todays_more {day2 : Int32} {b0 : Nat} (h : ∀ b, b0 ≤ b → b < 6 → (L_X10_bringHomeTodays_4 day2 boatO seaO backB logF logN b0).2.1 b = 0) : ∀ k, b0 + k ≤ 6 → L_X10_bringHomeTodays_4 day2 boatO seaO backB logF logN (b0 + k) = L_X10_bringHomeTodays_4 day2 boatO seaO backB logF logN b0
  | 0, _ => rfl
  | k + 1, hk => by
    have ih := x_todays_more h k (by omega)
    refine (iter_s _ _ (b0 + k)).trans ?_
    show (bif f_X2_isOut (L_X10_bringHomeTodays_4 day2 boatO seaO backB logF logN (b0 + k)).2.1 (nI (b0 + k)) then _ else ((L_X10_bringHomeTodays_4 day2 boatO seaO backB logF logN (b0 + k)).1, (L_X10_bringHomeTodays_4 day2 boatO seaO backB logF logN (b0 + k)).2.1, (L_X10_bringHomeTodays_4 day2 boatO seaO backB logF logN (b0 + k)).2.2.1, (L_X10_bringHomeTodays_4 day2 boatO seaO backB logF logN (b0 + k)).2.2.2.1, (L_X10_bringHomeTodays_4 day2 boatO seaO backB logF logN (b0 + k)).2.2.2.2)) = _
    rw [ih, x_out (by omega), h (b0 + k) (by omega) (by omega)]
    rfl
/-- a day passes -/
theorem st_day {m K : Nat} {D : Nat} (hd : day = nI m) (hm : m < 99 * M) (hM : M ≤ 601) (h : RSx M P B Q day votes isOpen baskets lays recs fneed clos boatO seaO faultO daysO backB sailB plc car bnd bsk dyL rsn pastF pastN mW) (hl : RLg A logF logN mW) (hA : A + outN backB ≤ K) (hK : K < 100000) (hD : ∀ p, p < P → (daysO p).toNatClampNeg ≤ D) (hD2 : D < 99 * M) (hP : P ≤ 20) (hB : B ≤ 6) :
    (f_X10_bringHomeTodays (day + 1) boatO seaO backB logF logN).1 = (f_X12_passes (nI P) (nI B) mW).1 ∧ ∃ A2, RSx M P B Q (day + 1) votes isOpen baskets lays recs fneed clos boatO (f_X10_bringHomeTodays (day + 1) boatO seaO backB logF logN).2.2.2.2 faultO (f_X2_countDayAtSea seaO daysO) (f_X10_bringHomeTodays (day + 1) boatO seaO backB logF logN).2.1 sailB plc car bnd bsk dyL rsn pastF pastN (f_X12_passes (nI P) (nI B) mW).2 ∧
    RLg A2 (f_X10_bringHomeTodays (day + 1) boatO seaO backB logF logN).2.2.1 (f_X10_bringHomeTodays (day + 1) boatO seaO backB logF logN).2.2.2.1 (f_X12_passes (nI P) (nI B) mW).2 ∧ A2 + outN (f_X10_bringHomeTodays (day + 1) boatO seaO backB logF logN).2.1 ≤ K ∧ ∀ p, p < P → (f_X2_countDayAtSea seaO daysO p).toNatClampNeg ≤ D + 1 := by
  have cP : (nI P).toNatClampNeg = P := nI_clamp (by omega)
  have cB : (nI B).toNatClampNeg = B := nI_clamp (by omega)
  obtain ⟨w1, w2, w3⟩ := m_dayLoop (P := P) (mW := mW) hP P (Nat.le_refl _)
  have hday2 : day + 1 = nI (m + 1) := by rw [hd, nI_1]
  have hdays : ∀ p, p < P → f_X2_countDayAtSea seaO daysO p = L_X12_passes_12 mW P (9 + 11 * p + 3) ∧ (f_X2_countDayAtSea seaO daysO p).toNatClampNeg ≤ D + 1 ∧ vp_in (f_X2_countDayAtSea seaO daysO p) (99 * M + 1) := fun p hp => by
    have hpp := h.2.1 p hp
    obtain ⟨e, he⟩ := vin_nI hpp.2.2.2.1.2
    have hb := hD p hp
    have em : mW (9 + 11 * p + 3) = daysO p := hpp.2.2.2.1.1
    rw [x_countDay]
    show (if p < 20 then (if seaO p = 0 then daysO p else daysO p + 1) else daysO p) = _ ∧ (if p < 20 then (if seaO p = 0 then daysO p else daysO p + 1) else daysO p).toNatClampNeg ≤ D + 1 ∧ vp_in (if p < 20 then (if seaO p = 0 then daysO p else daysO p + 1) else daysO p) (99 * M + 1)
    rw [if_pos (show p < 20 by omega), w1 p 3 (by omega) (by decide), if_pos (show 3 = 3 ∧ p < P from ⟨rfl, hp⟩)]
    rcases hpp.2.1 with ⟨z1, z2⟩ | ⟨z1, z2, z3, -⟩
    · rw [if_pos z1, z2, em]
      exact ⟨rfl, by omega, hpp.2.2.2.1.2⟩
    · have : decide (0 ≤ mW (9 + 11 * p + 1)) = true := by
        rw [z2]
        exact decide_eq_true (Int32.not_lt.mp (fun w => z3 (Or.inl w)))
      rw [if_neg z1, this, em]
      generalize (daysO p).toNatClampNeg = k at e he hb
      rw [e, nI_1]
      refine ⟨rfl, ?_, vp_in_nI (by omega) (by omega)⟩
      rw [nI_clamp (by omega)]
      omega
  have hm12 : ∀ p c, p < 20 → c < 11 → (p < P → c ≠ 3) → L_X12_passes_12 mW P (9 + 11 * p + c) = mW (9 + 11 * p + c) := fun p c hp hc hn => by
    rw [w1 p c hp hc, if_neg (fun z => hn z.2 z.1)]
  have hy : RSy M P B Q day (day + 1) votes isOpen baskets lays recs fneed clos boatO seaO faultO (f_X2_countDayAtSea seaO daysO) backB sailB plc car bnd bsk dyL rsn pastF pastN (L_X12_passes_12 mW P) := by
    obtain ⟨⟨⟨a1, a2⟩, ⟨b1, b2⟩, ⟨d1, d2⟩, ⟨f1, f2⟩, ⟨l1, l2, l3⟩, ⟨m1, m2⟩, nn⟩, h2, h3, h4, h5, h6⟩ := h
    refine ⟨⟨⟨w2.trans (congrArg (· + 1) a1), ?_⟩, ⟨(w3 1 (by omega)).trans b1, b2⟩, ⟨(w3 2 (by omega)).trans d1, d2⟩, ⟨(w3 3 (by omega)).trans f1, f2⟩, ⟨(w3 7 (by omega)).trans l1, l2, l3⟩, ⟨(w3 6 (by omega)).trans m1, m2⟩, fun q => ⟨(w3 4 (by omega)).trans (nn q).1, (w3 5 (by omega)).trans (nn q).2.1, (nn q).2.2⟩⟩, fun p hp => ?_, fun p hp hp2 => ?_, fun b hb => (h4 b hb).congm (fun c hc => w3 _ (by omega)) (Nat.le_refl _), h5, h6.congm (fun j h1 h2 => w3 j (by omega))⟩
    · rw [hday2]
      exact vp_in_nI (by omega) (by omega)
    · obtain ⟨x1, x2, x3⟩ := hdays p hp
      obtain ⟨r0, r1, r2, r3, r4, r5, r6, r7, r8, r9, r10, r11, r12, r13, r14⟩ := h2 p hp
      have hc : ∀ c, c < 11 → c ≠ 3 → L_X12_passes_12 mW P (9 + 11 * p + c) = mW (9 + 11 * p + c) := fun c h1 h2 => hm12 p c (by omega) h1 (fun _ => h2)
      unfold RPe
      rw [← x1, show L_X12_passes_12 mW P (9 + 11 * p) = mW (9 + 11 * p) from hc 0 (by decide) (by decide), hc 1 (by decide) (by decide), hc 2 (by decide) (by decide), hc 4 (by decide) (by decide), hc 5 (by decide) (by decide), hc 6 (by decide) (by decide), hc 7 (by decide) (by decide), hc 8 (by decide) (by decide), hc 9 (by decide) (by decide), hc 10 (by decide) (by decide)]
      exact ⟨r0, r1, r2, ⟨rfl, x3⟩, r4, r5, r6, r7, r8, r9, r10, r11, r12, r13, r14⟩
    · obtain ⟨r1, r2, r3, r4, r5, r6, r7, r8, r9, r10⟩ := h3 p hp hp2
      refine ⟨r1, r2, r3, ?_, r5, r6, r7, r8, r9, fun c hc => (hm12 p c hp2 hc (by omega)).trans (r10 c hc)⟩
      rw [x_countDay]
      show (if p < 20 then (if seaO p = 0 then daysO p else daysO p + 1) else daysO p) = 0
      rw [if_pos hp2, if_pos r2]
      exact r4
  have hl1 : RLg A logF logN (L_X12_passes_12 mW P) := hl.cong (Nat.le_refl _) (w3 8 (by omega)) (fun j h1 h2 => w3 j (by omega))
  obtain ⟨k1, A2, k2, k3, k4, k5⟩ := st_todays (day2 := day + 1) hd (by omega) hday2 hy hl1 hA hK hP hB B (Nat.le_refl _)
  have hmore := x_todays_more (day2 := day + 1) (boatO := boatO) (seaO := seaO) (backB := backB) (logF := logF) (logN := logN) (b0 := B) (fun b h1 h2 => k2.2.2.2.2.1 b h1 h2) (6 - B) (by omega)
  rw [show B + (6 - B) = 6 by omega] at hmore
  have ex : f_X10_bringHomeTodays (day + 1) boatO seaO backB logF logN = L_X10_bringHomeTodays_4 (day + 1) boatO seaO backB logF logN B := by
    unfold f_X10_bringHomeTodays
    rw [hmore]
  have em : f_X12_passes (nI P) (nI B) mW = mToday (nI P) (L_X12_passes_12 mW P) B := by
    unfold f_X12_passes
    rw [cB]
    show (L_X12_passes_56 (nI P) mW B) = _
    unfold L_X12_passes_56 mToday
    rw [cP]
  rw [ex, em]
  refine ⟨k1, A2, ?_, k3, k4, fun p hp => (hdays p hp).2.1⟩
  obtain ⟨h1, h2, h3, h4, h5, h6⟩ := k2
  refine ⟨h1, h2, h3, fun b hb => ?_, h5, h6⟩
  obtain ⟨r1, r2⟩ := h4 b hb
  refine ⟨?_, r2⟩
  rcases r1 with z | ⟨z1, z2, z3, z4⟩
  · exact Or.inl z
  · refine Or.inr ⟨z1, z2, z3, ?_⟩
    have hne := k5 b hb
    generalize (L_X10_bringHomeTodays_4 (day + 1) boatO seaO backB logF logN B).2.1 b = v at z3 z4 hne ⊢
    obtain ⟨e, he⟩ := vin_nI z3
    generalize v.toNatClampNeg = k at e he
    subst e
    rw [hd] at z4
    have g1 := (nI_ltI (by omega) (by omega)).mp z4
    rw [hday2] at hne ⊢
    exact nI_lt (by have : k ≠ m + 1 := fun w => hne (by rw [w])
                    omega) (by omega)
theorem st_daysL (h : RSt N P B Q day votes isOpen baskets lays recs fneed clos boatO seaO faultO daysO backB sailB plc car bnd bsk dyL rsn pastF pastN logF logN mW) (hN : N ≤ 600) (hP : P ≤ 20) (hB : B ≤ 6) : ∀ n, n ≤ 99 → ∀ m, day = nI m → m ≤ 99 * N →
    (L_X10_letDaysPass_4 day boatO seaO daysO backB logF logN n).1 = (L_X12_pass_22 (nI P) (nI B) mW n).1 ∧ (L_X10_letDaysPass_4 day boatO seaO daysO backB logF logN n).2.2.1 = nI (m + n) ∧ ∃ A2, RSx (N + 1) P B Q (L_X10_letDaysPass_4 day boatO seaO daysO backB logF logN n).2.2.1 votes isOpen baskets lays recs fneed clos boatO (L_X10_letDaysPass_4 day boatO seaO daysO backB logF logN n).2.2.2.2.2.2 faultO (L_X10_letDaysPass_4 day boatO seaO daysO backB logF logN n).2.2.2.1 (L_X10_letDaysPass_4 day boatO seaO daysO backB logF logN n).2.1 sailB plc car bnd bsk dyL rsn pastF pastN (L_X12_pass_22 (nI P) (nI B) mW n).2 ∧
    RLg A2 (L_X10_letDaysPass_4 day boatO seaO daysO backB logF logN n).2.2.2.2.1 (L_X10_letDaysPass_4 day boatO seaO daysO backB logF logN n).2.2.2.2.2.1 (L_X12_pass_22 (nI P) (nI B) mW n).2 ∧ A2 + outN (L_X10_letDaysPass_4 day boatO seaO daysO backB logF logN n).2.1 ≤ 30 * N + 6 ∧ ∀ p, p < P → ((L_X10_letDaysPass_4 day boatO seaO daysO backB logF logN n).2.2.2.1 p).toNatClampNeg ≤ 99 * N + n := by
  intro n hn m hd hm
  revert n
  refine iter2 (fun n (s : Int32 × (Nat → Int32) × Int32 × (Nat → Int32) × (Nat → Int32) × Int32 × (Nat → Int32)) (t : Int32 × (Nat → Int32)) => s.1 = t.1 ∧ s.2.2.1 = nI (m + n) ∧ ∃ A2, RSx (N + 1) P B Q s.2.2.1 votes isOpen baskets lays recs fneed clos boatO s.2.2.2.2.2.2 faultO s.2.2.2.1 s.2.1 sailB plc car bnd bsk dyL rsn pastF pastN t.2 ∧ RLg A2 s.2.2.2.2.1 s.2.2.2.2.2.1 t.2 ∧ A2 + outN s.2.1 ≤ 30 * N + 6 ∧ ∀ p, p < P → (s.2.2.2.1 p).toNatClampNeg ≤ 99 * N + n) ⟨rfl, hd, 30 * N, h.x.congm (fun _ _ _ => rfl) (Nat.le_succ N) hP hB, h.l, ?_, fun p hp => ?_⟩ (fun n s t hn hI => ?_)
  · have := outN_le backB
    show 30 * N + outN backB ≤ _
    omega
  · obtain ⟨e, he⟩ := vin_nI (h.2.1 p hp).2.2.2.1.2
    show (daysO p).toNatClampNeg ≤ _
    omega
  · obtain ⟨i1, i2, A2, i3, i4, i5, i6⟩ := hI
    obtain ⟨k1, A3, k2, k3, k4, k5⟩ := st_day (K := 30 * N + 6) (D := 99 * N + n) (M := N + 1) i2 (by omega) (by omega) i3 i4 i5 (by omega) i6 (by omega) hP hB
    refine ⟨?_, ?_, A3, k2, k3, k4, k5⟩
    · dsimp only
      rw [i1, k1]
    · dsimp only
      rw [i2, nI_1]
      rfl
theorem st_pass (h : RSt N P B Q day votes isOpen baskets lays recs fneed clos boatO seaO faultO daysO backB sailB plc car bnd bsk dyL rsn pastF pastN logF logN mW) (hs : RSu P B Q nums bNames pNames fBoats nB nP mPpl mBts mNum mNam mFst mBnm) (hh : RHi N P B Q hsN hsX hsF mUs mUn) (hN : N ≤ 600) (x : Int32) : (f_X11_pass day votes isOpen baskets lays recs fneed clos boatO seaO faultO daysO backB sailB plc car bnd bsk dyL rsn pastF pastN logF logN hsN hsX hsF x).1 = (f_X12_pass mPpl mBts mUs mW mUn x).1 ∧ RSt (N + 1) P B Q ((f_X11_pass day votes isOpen baskets lays recs fneed clos boatO seaO faultO daysO backB sailB plc car bnd bsk dyL rsn pastF pastN logF logN hsN hsX hsF x).2.2.1) votes isOpen baskets lays recs fneed clos boatO ((f_X11_pass day votes isOpen baskets lays recs fneed clos boatO seaO faultO daysO backB sailB plc car bnd bsk dyL rsn pastF pastN logF logN hsN hsX hsF x).2.2.2.2.2.2.2.2.2) faultO ((f_X11_pass day votes isOpen baskets lays recs fneed clos boatO seaO faultO daysO backB sailB plc car bnd bsk dyL rsn pastF pastN logF logN hsN hsX hsF x).2.2.2.1) ((f_X11_pass day votes isOpen baskets lays recs fneed clos boatO seaO faultO daysO backB sailB plc car bnd bsk dyL rsn pastF pastN logF logN hsN hsX hsF x).2.1) sailB plc car bnd bsk dyL rsn pastF pastN ((f_X11_pass day votes isOpen baskets lays recs fneed clos boatO seaO faultO daysO backB sailB plc car bnd bsk dyL rsn pastF pastN logF logN hsN hsX hsF x).2.2.2.2.2.2.2.1) ((f_X11_pass day votes isOpen baskets lays recs fneed clos boatO seaO faultO daysO backB sailB plc car bnd bsk dyL rsn pastF pastN logF logN hsN hsX hsF x).2.2.2.2.2.2.2.2.1) ((f_X12_pass mPpl mBts mUs mW mUn x).2.2.2) ∧ RHi (N + 1) P B Q ((f_X11_pass day votes isOpen baskets lays recs fneed clos boatO seaO faultO daysO backB sailB plc car bnd bsk dyL rsn pastF pastN logF logN hsN hsX hsF x).2.2.2.2.2.1) ((f_X11_pass day votes isOpen baskets lays recs fneed clos boatO seaO faultO daysO backB sailB plc car bnd bsk dyL rsn pastF pastN logF logN hsN hsX hsF x).2.2.2.2.2.2.1) ((f_X11_pass day votes isOpen baskets lays recs fneed clos boatO seaO faultO daysO backB sailB plc car bnd bsk dyL rsn pastF pastN logF logN hsN hsX hsF x).2.2.2.2.1) ((f_X12_pass mPpl mBts mUs mW mUn x).2.2.1) ((f_X12_pass mPpl mBts mUs mW mUn x).2.1) := by
  have hP := su_P hs
  have hB := hs.2.2.2.2.2.1
  unfold f_X11_pass f_X12_pass S_X11_pass_17 S_X11_pass_25
  rw [isDays_eq]
  cases c : f_X12_in x.toInt64 1 99
  · simp only [cond_false]
    exact ⟨trivial, h.mono (Nat.le_succ N) hP hB, hh.mono (Nat.le_succ N) hP hB⟩
  obtain ⟨d, rfl, hd1, hd2⟩ := days_n c
  obtain ⟨m, em, hm⟩ := rs_day_n h
  simp only [cond_true]
  have hrem := ((hh.rem (t := (day, votes, isOpen, baskets, lays, recs, fneed, clos, boatO, seaO, faultO, daysO, backB, sailB, plc, car, bnd, bsk, dyL, rsn, pastF, pastN, logF, logN)) h hP hB).mono (Nat.le_succ N) hP hB)
  obtain ⟨k1, k2, A2, k3, k4, k5, k6⟩ := st_daysL h hN hP hB d hd2 m em hm
  have cd : (nI d).toNatClampNeg = d := nI_clamp (by omega)
  have ex : f_X10_letDaysPass day boatO seaO daysO backB logF logN (nI d) = L_X10_letDaysPass_4 day boatO seaO daysO backB logF logN d := by
    unfold f_X10_letDaysPass
    rw [cd]
  rw [ex, cd, hs.2.1, hs.2.2.2.1]
  exact ⟨k1, k3.st (k4.cong (by omega) rfl (fun _ _ _ => rfl)), hrem⟩
end O6
