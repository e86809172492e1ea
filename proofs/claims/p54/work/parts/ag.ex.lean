/-! WHAT STANDS BESIDE THE INVARIANT: right sticks, counts; what an act does -/
section EXS
variable {N P B Q : Nat} {v : VT}
theorem ra_pe (hR : RA N P B Q v) {p : Nat} (hp : p < P) : (v_boatO v p = -2 ∨ vp_in (v_boatO v p) B) ∧ (v_seaO v p = 0 ∨ (¬ v_seaO v p = 0 ∧ vp_in (v_boatO v p) B ∧ ¬ v_backB v (v_boatO v p).toNatClampNeg = 0)) ∧ vp_in (v_faultO v p) 4 ∧ vp_in (v_daysO v p) (99 * N + 1) ∧ vp_in (v_plc v p) 4 ∧ (v_car v p = -2 ∨ vp_in (v_car v p) P) ∧ ¬ v_car v p = nI p ∧ (v_plc v p = 0 → v_car v p = -2) ∧ (v_plc v p = 1 → vp_in (v_car v p) P) ∧ (v_bnd v p = -2 ∨ vp_in (v_bnd v p) 4) ∧ vp_in (v_rsn v p) 4 ∧ ((v_plc v p = 0 ∨ v_plc v p = 1) → v_bsk v p = -2 ∧ v_dyL v p = -2 ∧ v_rsn v p = 0) ∧ ((v_plc v p = 2 ∨ v_plc v p = 3) → vp_in (v_bsk v p) 4 ∧ ¬ v_votes v = 0) := by
  obtain ⟨mTaped, mErr, mPpl, mBts, mUs, mTape, mNum, mNam, mFst, mBnm, mW, mUn, mSl, mKp, hR⟩ := hR
  obtain ⟨⟨-, h1⟩, h2, ⟨-, h3⟩, ⟨-, h4⟩, -, ⟨-, h5⟩, ⟨-, h6, h7⟩, h8, h9, ⟨-, h10⟩, -, -, ⟨-, h11⟩, h12, h13⟩ := hR.2.1.2.1 p hp
  exact ⟨h1, h2.elim (fun z => Or.inl z.1) (fun z => Or.inr ⟨z.1, z.2.2⟩), h3, h4, h5, h6, h7, h8, h9, h10, h11, h12, h13⟩
theorem ra_no (hR : RA N P B Q v) {p : Nat} (h1 : P ≤ p) (h2 : p < 20) : v_boatO v p = -2 ∧ v_seaO v p = 0 ∧ v_faultO v p = 0 ∧ v_daysO v p = 0 ∧ v_plc v p = 0 ∧ v_car v p = -2 ∧ v_bsk v p = -2 ∧ v_dyL v p = -2 ∧ v_rsn v p = 0 := by
  obtain ⟨mTaped, mErr, mPpl, mBts, mUs, mTape, mNum, mNam, mFst, mBnm, mW, mUn, mSl, mKp, hR⟩ := hR
  obtain ⟨a1, a2, a3, a4, a5, a6, a7, a8, a9, -⟩ := hR.2.1.2.2.1 p h1 h2
  exact ⟨a1, a2, a3, a4, a5, a6, a7, a8, a9⟩
theorem ra_bo (hR : RA N P B Q v) {b : Nat} (hb : b < B) : v_backB v b = 0 ∨ (∃ k, v_backB v b = nI k ∧ k ≤ 198 * N ∧ v_day v < v_backB v b) := by
  obtain ⟨mTaped, mErr, mPpl, mBts, mUs, mTape, mNum, mNam, mFst, mBnm, mW, mUn, mSl, mKp, hR⟩ := hR
  rcases (hR.2.1.2.2.2.1 b hb).1 with z | z
  · exact Or.inl z.2
  · obtain ⟨e, hlt⟩ := vin_nI z.2.2.1
    exact Or.inr ⟨_, e, by omega, z.2.2.2⟩
theorem ra_bno (hR : RA N P B Q v) {b : Nat} (h1 : B ≤ b) (h2 : b < 6) : v_backB v b = 0 := by
  obtain ⟨mTaped, mErr, mPpl, mBts, mUs, mTape, mNum, mNam, mFst, mBnm, mW, mUn, mSl, mKp, hR⟩ := hR
  exact hR.2.1.2.2.2.2.1 b h1 h2
theorem ra_bo6 (hR : RA N P B Q v) {b : Nat} (hb : b < 6) : v_backB v b = 0 ∨ (∃ k, v_backB v b = nI k ∧ k ≤ 198 * N ∧ v_day v < v_backB v b) := by
  rcases Nat.lt_or_ge b B with h | h
  · exact ra_bo hR h
  · exact Or.inl (ra_bno hR h hb)
theorem ra_sc (hR : RA N P B Q v) : (∃ d, v_day v = nI d ∧ d ≤ 99 * N) ∧ (∃ n, v_votes v = nI n ∧ n ≤ N) ∧ (tb (v_isOpen v) = true → ¬ v_votes v = 0) ∧ vp_in (v_baskets v) 5 ∧ vp_in (v_lays v) (N + 1) ∧ (v_votes v = 0 → v_lays v = 0) ∧ vp_in (v_recs v) Q ∧ (tb (v_isOpen v) = false → vp_in (v_clos v) (99 * N + 1)) := by
  obtain ⟨mTaped, mErr, mPpl, mBts, mUs, mTape, mNum, mNam, mFst, mBnm, mW, mUn, mSl, mKp, hR⟩ := hR
  obtain ⟨⟨-, h1⟩, ⟨-, h2⟩, ⟨-, h3⟩, ⟨-, h4⟩, ⟨-, h5, h6⟩, ⟨-, h7⟩, h8⟩ := hR.2.1.1
  obtain ⟨e1, l1⟩ := vin_nI h1
  obtain ⟨e2, l2⟩ := vin_nI h2
  exact ⟨⟨_, e1, by omega⟩, ⟨_, e2, by omega⟩, h3, h4, h5, h6, h7, fun z => (h8 z).2.2⟩
theorem ra_nu (hR : RA N P B Q v) : (vp_in (v_nums v 0) 101 ∧ ¬ v_nums v 0 = 0) ∧ (∀ i, i < 4 → vp_in (v_nums v (1 + i)) 101) ∧ vp_in (v_nums v 5) 10 ∧ (vp_in (v_nums v 6) 21 ∧ ¬ v_nums v 6 = 0) ∧ vp_in (v_nums v 7) 10 ∧ vp_in (v_nums v 8) 31 ∧ vp_in (v_nums v 9) 4 ∧ Q = (v_nums v 9).toNatClampNeg + 1 := by
  obtain ⟨mTaped, mErr, mPpl, mBts, mUs, mTape, mNum, mNam, mFst, mBnm, mW, mUn, mSl, mKp, hR⟩ := hR
  obtain ⟨-, -, -, -, -, -, e, h0, h1, h5, h6, h7, h8, h9, -⟩ := hR.1
  have f : ∀ i, i < 10 → v_nums v i = mNum i := e
  refine ⟨by rw [f 0 (by decide)]; exact h0, fun i hi => by rw [f (1 + i) (by omega)]; exact h1 i hi, by rw [f 5 (by decide)]; exact h5, by rw [f 6 (by decide)]; exact h6, by rw [f 7 (by decide)]; exact h7, by rw [f 8 (by decide)]; exact h8, by rw [f 9 (by decide)]; exact h9.1, by rw [f 9 (by decide)]; exact h9.2⟩
end EXS
/-! counts behind a change -/
theorem cntB_set {p q : Nat → Bool} {i : Nat} (h : ∀ k, k ≠ i → q k = p k) (hp : p i = false) (hq : q i = true) : ∀ {n : Nat}, i < n → cntB q n = cntB p n + 1
  | 0, hi => absurd hi (Nat.not_lt_zero i)
  | n + 1, hi => by
    rw [cntB, cntB]
    by_cases e : i = n
    · subst e
      rw [hp, hq, cntB_cong (p := q) (q := p) (fun k hk => h k (by omega))]
      simp
    · rw [cntB_set h hp hq (show i < n by omega), h n (fun z => e z.symm)]
      omega
theorem cntB_no {p : Nat → Bool} : ∀ {n : Nat}, (∀ i, i < n → p i = false) → cntB p n = 0
  | 0, _ => rfl
  | n + 1, h => by
    rw [cntB, cntB_no (fun i hi => h i (by omega)), h n (by omega)]
    rfl
theorem cntB_sum {p q : Nat → Bool} : ∀ {n : Nat}, (∀ i, i < n → ¬ (p i = true ∧ q i = true)) → cntB p n + cntB q n = cntB (fun i => p i || q i) n
  | 0, _ => rfl
  | n + 1, h => by
    have := cntB_sum (fun i hi => h i (Nat.lt_succ_of_lt hi) : ∀ i, i < n → ¬ (p i = true ∧ q i = true))
    have h2 := h n (Nat.lt_succ_self n)
    rw [cntB, cntB, cntB]
    cases e1 : p n <;> cases e2 : q n <;> simp [e1, e2] at h2 ⊢ <;> omega
def EXc (P : Nat) (baskets lays : Int32) (plc car bnd bsk rsn : Nat → Int32) : Prop :=
  (∀ p, p < P → (car p = -2 → bnd p = -2 ∧ rsn p = 0) ∧ (plc p = 3 → ¬ rsn p = 0) ∧ ((plc p = 2 ∨ plc p = 3) → bsk p < baskets)) ∧ lays = nI (cntB (fun o => decide (plc o = 2) || decide (plc o = 3)) 20)
abbrev EX (P : Nat) (v : VT) : Prop := EXc P (v_baskets v) (v_lays v) (v_plc v) (v_car v) (v_bnd v) (v_bsk v) (v_rsn v)
section EXO
variable {P : Nat} {ba la : Int32} {plc car bnd bsk rsn : Nat → Int32}
theorem exc_give {i : Nat} (h : EXc P ba la plc car bnd bsk rsn) (h0 : plc i = 0) {y b : Int32} (hy : ¬ y = -2) : EXc P ba la (upd plc i 1) (upd car i y) (upd bnd i b) bsk rsn := by
  refine ⟨fun p hp => ?_, ?_⟩
  · by_cases q : p = i
    · subst q
      rw [upd_eq, upd_eq, upd_eq]
      exact ⟨fun z => absurd z hy, fun z => absurd z (by decide), fun z => by rcases z with z | z <;> exact absurd z (by decide)⟩
    · rw [upd_ne q, upd_ne q, upd_ne q]
      exact h.1 p hp
  · rw [h.2]
    refine congrArg nI (cntB_cong (fun o ho => ?_))
    by_cases q : o = i
    · subst q
      rw [upd_eq, h0]
      decide
    · rw [upd_ne q]
theorem exc_back {i : Nat} (h : EXc P ba la plc car bnd bsk rsn) (h1 : plc i = 1) (hr : rsn i = 0) : EXc P ba la (upd plc i 0) (upd car i (-2)) (upd bnd i (-2)) bsk rsn := by
  refine ⟨fun p hp => ?_, ?_⟩
  · by_cases q : p = i
    · subst q
      rw [upd_eq, upd_eq, upd_eq]
      exact ⟨fun z => ⟨rfl, hr⟩, fun z => absurd z (by decide), fun z => by rcases z with z | z <;> exact absurd z (by decide)⟩
    · rw [upd_ne q, upd_ne q, upd_ne q]
      exact h.1 p hp
  · rw [h.2]
    refine congrArg nI (cntB_cong (fun o ho => ?_))
    by_cases q : o = i
    · subst q
      rw [upd_eq, h1]
      decide
    · rw [upd_ne q]
theorem exc_lay {o : Nat} (h : EXc P ba la plc car bnd bsk rsn) (ho : o < 20) (h01 : plc o = 0 ∨ plc o = 1) {z rr : Int32} (hz : z < ba) (hr : car o = -2 → rr = 0) : EXc P ba (la + 1) (upd plc o 2) car bnd (upd bsk o z) (upd rsn o rr) := by
  refine ⟨fun p hp => ?_, ?_⟩
  · by_cases q : p = o
    · subst q
      rw [upd_eq, upd_eq, upd_eq]
      exact ⟨fun w => ⟨((h.1 p hp).1 w).1, hr w⟩, fun w => absurd w (by decide), fun _ => hz⟩
    · rw [upd_ne q, upd_ne q, upd_ne q]
      exact h.1 p hp
  · rw [h.2, cntB_set (p := fun o => decide (plc o = 2) || decide (plc o = 3)) (q := fun k => decide (upd plc o 2 k = 2) || decide (upd plc o 2 k = 3)) (i := o) (fun k hk => by rw [upd_ne hk]) (by rcases h01 with e | e <;> rw [e] <;> decide) (by rw [upd_eq]; decide) ho]
    exact nI_add _ 1
theorem exc_strikes {plc' : Nat → Int32} (h : EXc P ba la plc car bnd bsk rsn) (hP : P ≤ 20) (hp : ∀ o, o < 20 → plc' o = plc o ∨ (plc o = 2 ∧ ¬ rsn o = 0 ∧ plc' o = 3)) : EXc P ba la plc' car bnd bsk rsn := by
  refine ⟨fun p hpP => ?_, ?_⟩
  · obtain ⟨h1, h2, h3⟩ := h.1 p hpP
    rcases hp p (by omega) with e | ⟨e1, e2, e3⟩
    · rw [e]
      exact ⟨h1, h2, h3⟩
    · rw [e3]
      exact ⟨h1, fun _ => e2, fun _ => h3 (Or.inl e1)⟩
  · rw [h.2]
    refine congrArg nI (cntB_cong (fun o ho => ?_))
    rcases hp o ho with e | ⟨e1, e2, e3⟩
    · rw [e]
    · rw [e1, e3]
      decide
theorem exc_open {plc' bsk' rsn' : Nat → Int32} {ba' : Int32} (h : EXc P ba la plc car bnd bsk rsn) (hP : P ≤ 20) (hp : ∀ o, o < 20 → plc' o = if car o = -2 then 0 else 1) (hr : ∀ o, o < 20 → rsn' o = 0) : EXc P ba' 0 plc' car bnd bsk' rsn' := by
  have h01 : ∀ o, o < 20 → plc' o = 0 ∨ plc' o = 1 := fun o ho => by
    rw [hp o ho]
    split
    · exact Or.inl rfl
    · exact Or.inr rfl
  refine ⟨fun p hpP => ⟨fun z => ⟨((h.1 p hpP).1 z).1, hr p (by omega)⟩, fun z => ?_, fun z => ?_⟩, ?_⟩
  · rcases h01 p (by omega) with e | e <;> rw [e] at z <;> exact absurd z (by decide)
  · rcases h01 p (by omega) with e | e <;> rw [e] at z <;> exact absurd z (by decide)
  · rw [cntB_no (fun o ho => by rcases h01 o ho with e | e <;> rw [e] <;> decide)]
    rfl
end EXO
