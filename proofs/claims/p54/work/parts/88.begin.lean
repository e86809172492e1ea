theorem fillRow_at {n : Nat} {f : Nat → Int32} {v : Int32} (hn : n < 100) {j : Nat} (h : j < n) : f_X11_fillRow n f v j = v := by
  have e : f_X11_fillRow n f v = fun j => if j < n then v else f j := iter_row (N := n) (g := fun _ _ => v) (fun k t hk => by rw [nI_clamp (by omega)]) f n (Nat.le_refl _)
  rw [e]
  exact if_pos h
/-- what a person begins with -/
def pe0 (v : Int32) (c : Nat) : Int32 := if c = 0 then v else if c = 1 then -2 else if c < 6 then 0 else if c < 10 then -2 else 0
theorem clear_step (mFst mW : Nat → Int32) {n : Nat} (hn : n < 20) : L_X12_clear_24 mFst mW (n + 1) = upd (upd (upd (upd (upd (upd (upd (upd (L_X12_clear_24 mFst mW n) (9 + 11 * n + 0) (mFst n)) (9 + 11 * n + 1) (-2)) (9 + 11 * n + 5) 0) (9 + 11 * n + 6) (-2)) (9 + 11 * n + 7) (-2)) (9 + 11 * n + 8) (-2)) (9 + 11 * n + 9) (-2)) (9 + 11 * n + 10) 0 := by
  refine (iter_s _ _ _).trans ?_
  show f_X12_atHand (f_X12_sets (f_X12_sets (L_X12_clear_24 mFst mW n) (nI n) 0 (mFst (nI n).toNatClampNeg)) (nI n) 1 (-2)) (nI n) = _
  have s0 : ∀ (f : Nat → Int32) v, f_X12_sets f (nI n) 0 v = upd f (9 + 11 * n + 0) v := fun f v => sets_N (c := 0) hn (by decide)
  have s1 : ∀ (f : Nat → Int32) v, f_X12_sets f (nI n) 1 v = upd f (9 + 11 * n + 1) v := fun f v => sets_N (c := 1) hn (by decide)
  have s5 : ∀ (f : Nat → Int32) v, f_X12_sets f (nI n) 5 v = upd f (9 + 11 * n + 5) v := fun f v => sets_N (c := 5) hn (by decide)
  have s6 : ∀ (f : Nat → Int32) v, f_X12_sets f (nI n) 6 v = upd f (9 + 11 * n + 6) v := fun f v => sets_N (c := 6) hn (by decide)
  have s7 : ∀ (f : Nat → Int32) v, f_X12_sets f (nI n) 7 v = upd f (9 + 11 * n + 7) v := fun f v => sets_N (c := 7) hn (by decide)
  have s8 : ∀ (f : Nat → Int32) v, f_X12_sets f (nI n) 8 v = upd f (9 + 11 * n + 8) v := fun f v => sets_N (c := 8) hn (by decide)
  have s9 : ∀ (f : Nat → Int32) v, f_X12_sets f (nI n) 9 v = upd f (9 + 11 * n + 9) v := fun f v => sets_N (c := 9) hn (by decide)
  have s10 : ∀ (f : Nat → Int32) v, f_X12_sets f (nI n) 10 v = upd f (9 + 11 * n + 10) v := fun f v => sets_N (c := 10) hn (by decide)
  unfold f_X12_atHand f_X12_isLaidNoMore
  rw [s0, s1, s5, s6, s7, s8, s9, s10, nI_clamp (by omega)]
theorem clear_at (mFst mW : Nat → Int32) (n : Nat) : n ≤ 20 → (∀ p c, p < n → c < 11 → L_X12_clear_24 mFst mW n (9 + 11 * p + c) = pe0 (mFst p) c) ∧ ∀ j, j < 399 → (j < 9 ∨ 9 + 11 * n ≤ j) → L_X12_clear_24 mFst mW n j = 0 := by
  induction n with
  | zero =>
    intro _
    refine ⟨fun p c hp => absurd hp (Nat.not_lt_zero _), fun j hj _ => ?_⟩
    have e : L_X12_clear_2 mW 399 = fun j => if j < 399 then 0 else mW j := iter_row (N := 399) (g := fun _ _ => 0) (fun k t hk => by show upd t (nI k).toNatClampNeg 0 = _; rw [nI_clamp (by omega)]) mW 399 (Nat.le_refl _)
    have e2 : L_X12_clear_24 mFst mW 0 = L_X12_clear_2 mW 399 := iter_z _ _
    rw [e2, e]
    exact if_pos hj
  | succ n ih =>
    intro hn
    obtain ⟨h1, h2⟩ := ih (by omega)
    rw [clear_step mFst mW (n := n) (by omega)]
    constructor
    · intro p c hp hc
      by_cases q : p = n
      · subst q
        have h0 : ∀ c, c < 11 → L_X12_clear_24 mFst mW p (9 + 11 * p + c) = 0 := fun c hc => h2 _ (by omega) (by omega)
        rcases Nat.lt_or_ge c 1 with z | z
        · rw [show c = 0 by omega]
          rw [upd_ne (by omega), upd_ne (by omega), upd_ne (by omega), upd_ne (by omega), upd_ne (by omega), upd_ne (by omega), upd_ne (by omega), upd_eq]
          rfl
        rcases Nat.lt_or_ge c 2 with z2 | z2
        · rw [show c = 1 by omega]
          rw [upd_ne (by omega), upd_ne (by omega), upd_ne (by omega), upd_ne (by omega), upd_ne (by omega), upd_ne (by omega), upd_eq]
          rfl
        rcases Nat.lt_or_ge c 5 with z5 | z5
        · rw [upd_ne (by omega), upd_ne (by omega), upd_ne (by omega), upd_ne (by omega), upd_ne (by omega), upd_ne (by omega), upd_ne (by omega), upd_ne (by omega), h0 c hc]
          unfold pe0
          rw [if_neg (by omega), if_neg (by omega), if_pos (by omega)]
        rcases Nat.lt_or_ge c 6 with z6 | z6
        · rw [show c = 5 by omega]
          rw [upd_ne (by omega), upd_ne (by omega), upd_ne (by omega), upd_ne (by omega), upd_ne (by omega), upd_eq]
          rfl
        rcases Nat.lt_or_ge c 7 with z7 | z7
        · rw [show c = 6 by omega]
          rw [upd_ne (by omega), upd_ne (by omega), upd_ne (by omega), upd_ne (by omega), upd_eq]
          rfl
        rcases Nat.lt_or_ge c 8 with z8 | z8
        · rw [show c = 7 by omega]
          rw [upd_ne (by omega), upd_ne (by omega), upd_ne (by omega), upd_eq]
          rfl
        rcases Nat.lt_or_ge c 9 with z9 | z9
        · rw [show c = 8 by omega]
          rw [upd_ne (by omega), upd_ne (by omega), upd_eq]
          rfl
        rcases Nat.lt_or_ge c 10 with z10 | z10
        · rw [show c = 9 by omega]
          rw [upd_ne (by omega), upd_eq]
          rfl
        · rw [show c = 10 by omega]
          rw [upd_eq]
          rfl
      · rw [upd_ne (by omega), upd_ne (by omega), upd_ne (by omega), upd_ne (by omega), upd_ne (by omega), upd_ne (by omega), upd_ne (by omega), upd_ne (by omega)]
        exact h1 p c (by omega) hc
    · intro j hj q
      rw [upd_ne (by omega), upd_ne (by omega), upd_ne (by omega), upd_ne (by omega), upd_ne (by omega), upd_ne (by omega), upd_ne (by omega), upd_ne (by omega)]
      exact h2 j hj (by omega)
section BG
variable {P B Q : Nat}
variable {nums bNames pNames fBoats : Nat → Int32} {nB nP mPpl mBts : Int32} {mNum mNam mFst mBnm : Nat → Int32}
theorem beginBoat {boatO : Nat → Int32} (hn : nP = nI P) (hP : P ≤ 20) {p : Nat} (hp : p < 20) : L_X2_begin_2 boatO fBoats nP 20 p = if p < P then fBoats p else -2 := by
  have e : L_X2_begin_2 boatO fBoats nP 20 = fun j => if j < 20 then (if j < P then fBoats j else -2) else boatO j := iter_row (N := 20) (g := fun j _ => if j < P then fBoats j else -2) (fun k t hk => by
    show (if nP ≤ nI k then upd t (nI k).toNatClampNeg (-2) else upd t (nI k).toNatClampNeg (f_X11_cell 20 fBoats (nI k) (-2))) = _
    rw [nI_clamp (by omega), cell_nI (by decide) hk, hn]
    by_cases q : k < P
    · rw [if_neg (show ¬ nI P ≤ nI k from fun z => by have := (nI_leI (by omega) (by omega)).mp z; omega), if_pos q]
    · rw [if_pos (show nI P ≤ nI k from (nI_leI (by omega) (by omega)).mpr (by omega)), if_neg q]) boatO 20 (Nat.le_refl _)
  rw [e]
  exact if_pos hp
/-- a new village, nothing done -/
theorem st_begin (hs : RSu P B Q nums bNames pNames fBoats nB nP mPpl mBts mNum mNam mFst mBnm) (boatO seaO faultO daysO backB sailB plc car bnd bsk dyL rsn pastF logF mW : Nat → Int32) :
    RSt 0 P B Q 0 0 0 0 0 0 0 0 (L_X2_begin_2 boatO fBoats nP 20) (f_X11_fillRow 20 seaO 0) (f_X11_fillRow 20 faultO 0) (f_X11_fillRow 20 daysO 0) (f_X11_fillRow 6 backB 0) (f_X11_fillRow 6 sailB 0) (f_X11_fillRow 20 plc 0) (f_X11_fillRow 20 car (-2)) (f_X11_fillRow 20 bnd (-2)) (f_X11_fillRow 20 bsk (-2)) (f_X11_fillRow 20 dyL (-2)) (f_X11_fillRow 20 rsn 0) pastF 0 logF 0 (L_X12_clear_24 mFst mW mPpl.toNatClampNeg) := by
  have hP := su_P hs
  have hB : B ≤ 6 := hs.2.2.2.2.2.1
  have e3 : mPpl.toNatClampNeg = P := by rw [hs.2.1]; exact nI_clamp (by omega)
  rw [e3]
  obtain ⟨h1, h2⟩ := clear_at mFst mW P hP
  have z : ∀ j, j < 9 → L_X12_clear_24 mFst mW P j = 0 := fun j hj => h2 j (by omega) (Or.inl hj)
  have v0 : ∀ n, 0 < n → n < 2 ^ 31 → vp_in 0 n := fun n hn hn2 => vp_in_nI (n := 0) hn hn2
  have hQ := su_Q hs
  refine ⟨⟨⟨z 0 (by decide), v0 _ (by omega) (by omega)⟩, ⟨z 1 (by decide), v0 _ (by omega) (by omega)⟩, ⟨(z 2 (by decide)).trans rfl, fun q => by cases q⟩, ⟨z 3 (by decide), v0 _ (by omega) (by omega)⟩, ⟨z 7 (by decide), v0 _ (by omega) (by omega), fun _ => rfl⟩, ⟨z 6 (by decide), v0 _ hQ.1 hQ.2⟩, fun _ => ⟨z 4 (by decide), z 5 (by decide), v0 _ (by omega) (by omega)⟩⟩, ?_, ?_, ?_, ?_, ?_, ?_⟩
  · intro p hp
    have f0 : ∀ c, c < 11 → L_X12_clear_24 mFst mW P (9 + 11 * p + c) = pe0 (mFst p) c := fun c hc => h1 p c hp hc
    have hf := hs.2.2.2.2.2.2.2.2.2.2.2.2.2.2.1 p hp
    have eb : L_X2_begin_2 boatO fBoats nP 20 p = mFst p := (beginBoat hs.1 hP (by omega)).trans ((if_pos hp).trans hf.2.2.1)
    have r : ∀ (f : Nat → Int32) v, f_X11_fillRow 20 f v p = v := fun f v => fillRow_at (by decide) (by omega)
    have r20 : ∀ (f : Nat → Int32) v o, o < 20 → f_X11_fillRow 20 f v o = v := fun f v o ho => fillRow_at (by decide) ho
    have hne : ¬ (-2 : Int32) = nI p := fun q => by
      have := congrArg Int32.toInt q
      rw [nI_toInt (by omega)] at this
      have e : (-2 : Int32).toInt = -2 := by decide
      omega
    refine ⟨⟨(f0 0 (by decide)).trans eb.symm, by rw [eb]; exact hf.2.2.2⟩, Or.inl ⟨r _ _, f0 1 (by decide)⟩, ⟨(f0 2 (by decide)).trans (r _ _).symm, by rw [r]; exact v0 _ (by omega) (by omega)⟩, ⟨(f0 3 (by decide)).trans (r _ _).symm, by rw [r]; exact v0 _ (by omega) (by omega)⟩, ?_, ⟨(f0 5 (by decide)).trans (r _ _).symm, by rw [r]; exact v0 _ (by omega) (by omega)⟩, ⟨(f0 6 (by decide)).trans (r _ _).symm, by rw [r]; exact Or.inl rfl, by rw [r]; exact hne⟩, fun _ => r _ _, ?_, ⟨(f0 7 (by decide)).trans (r _ _).symm, by rw [r]; exact Or.inl rfl⟩, (f0 8 (by decide)).trans (r _ _).symm, (f0 9 (by decide)).trans (r _ _).symm, ⟨(f0 10 (by decide)).trans (r _ _).symm, by rw [r]; exact v0 _ (by omega) (by omega)⟩, fun _ => ⟨r _ _, r _ _, r _ _⟩, ?_⟩
    · refine (f0 4 (by decide)).trans ?_
      have : cntB (fun o => (f_X11_fillRow 20 plc 0 o == 2 || f_X11_fillRow 20 plc 0 o == 3) && f_X11_fillRow 20 car (-2) o == nI p) P = cntB (fun _ => false) P := cntB_cong (fun o ho => by rw [r20 _ _ o (by omega)]; rfl)
      rw [this, cntB_ext (fun _ => false) (n := 0) (m := P) (Nat.zero_le _) (fun _ _ _ => rfl)]
      rfl
    · rw [r]
      exact fun q => absurd q (by decide)
    · rw [r]
      exact fun q => absurd q (by decide)
  · intro p hp1 hp2
    have r : ∀ (f : Nat → Int32) v, f_X11_fillRow 20 f v p = v := fun f v => fillRow_at (by decide) hp2
    refine ⟨(beginBoat hs.1 hP hp2).trans (if_neg (by omega)), r _ _, r _ _, r _ _, r _ _, r _ _, r _ _, r _ _, r _ _, fun c hc => h2 _ (by omega) (Or.inr (by omega))⟩
  · intro b hb
    have r : ∀ (f : Nat → Int32) v, f_X11_fillRow 6 f v b = v := fun f v => fillRow_at (by decide) (by omega)
    exact ⟨Or.inl ⟨h2 _ (by omega) (Or.inr (by omega)), r _ _⟩, (h2 _ (by omega) (Or.inr (by omega))).trans (r _ _).symm, by rw [r]; exact v0 _ (by omega) (by omega)⟩
  · intro b _ hb
    exact fillRow_at (by decide) hb
  · exact ⟨0, 0, rfl, ⟨rfl, by decide⟩, rfl, fun _ q => absurd q (Nat.lt_irrefl 0), fun k c hk => absurd hk (Nat.not_lt_zero _)⟩
  · exact ⟨0, rfl, Nat.zero_le _, z 8 (by decide), fun i c hi => absurd hi (by omega)⟩
theorem hi_none (hsX : Int32) (hsF : Nat → StT) (mUn : Nat → Int32) {x : Nat} (hx : hsX = nI x) (h8 : x < 8) (N : Nat) : RHi N P B Q 0 hsX hsF 0 mUn :=
  ⟨0, x, rfl, rfl, hx, Nat.zero_le _, h8, fun i hi => absurd hi (Nat.not_lt_zero _)⟩
theorem ke_none {kpZ mKp : Nat → Int32} (kpF : Nat → StT) (mSl : Nat → Int32) (N : Nat) (h1 : ∀ s, s < 2 → kpZ s = 0) (h2 : ∀ s, s < 2 → mKp s = 0) : RKe N P B Q kpZ kpF mKp mSl :=
  fun s hs => Or.inl ⟨h1 s hs, h2 s hs⟩
end BG
