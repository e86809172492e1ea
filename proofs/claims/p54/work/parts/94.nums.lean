/-! the numbers of a setup text -/
def NR (f : Nat → Int32) : Prop := (vp_in (f 0) 101 ∧ ¬ f 0 = 0) ∧ (∀ i, i < 4 → vp_in (f (1 + i)) 101) ∧ vp_in (f 5) 10 ∧ (vp_in (f 6) 21 ∧ ¬ f 6 = 0) ∧ vp_in (f 7) 10 ∧ vp_in (f 8) 31 ∧ vp_in (f 9) 4
theorem vr {x : Int32} {lo hi : Nat} (h : ∃ v, x = nI v ∧ lo ≤ v ∧ v ≤ hi) (hh : hi < 1000) : vp_in x (hi + 1) := by
  obtain ⟨v, h1, h2, h3⟩ := h
  rw [h1]
  exact vp_in_nI (by omega) (by omega)
theorem vr0 {x : Int32} {lo hi : Nat} (h : ∃ v, x = nI v ∧ lo ≤ v ∧ v ≤ hi) (hl : 0 < lo) (hh : hi < 1000) : ¬ x = 0 := by
  obtain ⟨v, h1, h2, h3⟩ := h
  rw [h1]
  exact nI_ne0 (by omega) (by omega)
section NM
variable {E : Int32} {n : Nat} {tp mTape : Nat → Int32} {u : Nat → Nat} {c : TC} {s : TT}
theorem PL_eta (h : PL E n tp c s) : PL E n tp (c.1, c.2.1, c.2.2) s := h
theorem dead_out {A : Bool × (Nat → Int32) × TC} {dn : Nat → Int32} {x : TC} (q : A = (false, dn, x.1, x.2.1, x.2.2)) (d : PD x.2.2 s) : A.1 = false ∧ PD A.2.2.2.2 s := by
  rw [q]
  exact ⟨rfl, d⟩
theorem ok_out {A : Bool × (Nat → Int32) × TC} {dn : Nat → Int32} {x : TC} (q : A = (true, dn, x.1, x.2.1, x.2.2)) (p : PL E n tp x s) : A.1 = true ∧ A.2.1 = dn ∧ PL E n tp A.2.2 s := by
  rw [q]
  exact ⟨rfl, rfl, p⟩
theorem p_numA (hc : CH n tp mTape u) (hn : n ≤ 800) (h : PL E n tp c s) {x lo hi : Nat} {xi li hj : Int32} (ex : xi = nI x) (el : li = nI lo) (eh : hj = nI hi) (hx : x < 10) (hl : lo < 1000) (hh : hi < 1000) (dn : Nat → Int32) : ((f_X4_readNumber c.2.1 c.2.2 c.1 tp (nI n) dn xi li hj).1 = true ∧ (f_X4_readNumber c.2.1 c.2.2 c.1 tp (nI n) dn xi li hj).2.1 = upd dn x s.2.2.2.2.2.2.1 ∧ (∃ v, s.2.2.2.2.2.2.1 = nI v ∧ lo ≤ v ∧ v ≤ hi) ∧ PL E n tp (f_X4_readNumber c.2.1 c.2.2 c.1 tp (nI n) dn xi li hj).2.2 (numz n mTape li hj s)) ∨ ((f_X4_readNumber c.2.1 c.2.2 c.1 tp (nI n) dn xi li hj).1 = false ∧ PD (f_X4_readNumber c.2.1 c.2.2 c.1 tp (nI n) dn xi li hj).2.2.2.2 (numz n mTape li hj s)) := by
  subst ex el eh
  exact p_num hc hn h hx hl hh dn
theorem p_shares (hc : CH n tp mTape u) (hn : n ≤ 800) (h : PL E n tp c s) (dn : Nat → Int32) : ((f_X4_readShares c.2.1 c.2.2 c.1 tp (nI n) dn).1 = true ∧ (f_X4_readShares c.2.1 c.2.2 c.1 tp (nI n) dn).2.1 = (upd (upd (upd (upd dn 1 s.2.2.2.2.2.2.1) 2 (numz n mTape 0 100 s).2.2.2.2.2.2.1) 3 (numz n mTape 0 100 (numz n mTape 0 100 s)).2.2.2.2.2.2.1) 4 (numz n mTape 0 100 (numz n mTape 0 100 (numz n mTape 0 100 s))).2.2.2.2.2.2.1) ∧ ((∃ v, s.2.2.2.2.2.2.1 = nI v ∧ 0 ≤ v ∧ v ≤ 100) ∧ (∃ v, (numz n mTape 0 100 s).2.2.2.2.2.2.1 = nI v ∧ 0 ≤ v ∧ v ≤ 100) ∧ (∃ v, (numz n mTape 0 100 (numz n mTape 0 100 s)).2.2.2.2.2.2.1 = nI v ∧ 0 ≤ v ∧ v ≤ 100) ∧ (∃ v, (numz n mTape 0 100 (numz n mTape 0 100 (numz n mTape 0 100 s))).2.2.2.2.2.2.1 = nI v ∧ 0 ≤ v ∧ v ≤ 100)) ∧ PL E n tp (f_X4_readShares c.2.1 c.2.2 c.1 tp (nI n) dn).2.2 (numz n mTape 0 100 (numz n mTape 0 100 (numz n mTape 0 100 (numz n mTape 0 100 s))))) ∨ ((f_X4_readShares c.2.1 c.2.2 c.1 tp (nI n) dn).1 = false ∧ PD (f_X4_readShares c.2.1 c.2.2 c.1 tp (nI n) dn).2.2.2.2 (numz n mTape 0 100 (numz n mTape 0 100 (numz n mTape 0 100 (numz n mTape 0 100 s))))) := by
  have t0 : ((S_X4_readShares_14 c.2.1 c.2.2 c.1 tp (nI n) dn).1 = true ∧ (S_X4_readShares_14 c.2.1 c.2.2 c.1 tp (nI n) dn).2.1 = upd dn 1 s.2.2.2.2.2.2.1 ∧ (∃ v, s.2.2.2.2.2.2.1 = nI v ∧ 0 ≤ v ∧ v ≤ 100) ∧ PL E n tp (S_X4_readShares_14 c.2.1 c.2.2 c.1 tp (nI n) dn).2.2 (numz n mTape 0 100 s)) ∨ ((S_X4_readShares_14 c.2.1 c.2.2 c.1 tp (nI n) dn).1 = false ∧ PD (S_X4_readShares_14 c.2.1 c.2.2 c.1 tp (nI n) dn).2.2.2.2 (numz n mTape 0 100 s)) := by
    unfold S_X4_readShares_14
    exact p_numA (x := 1) (lo := 0) (hi := 100) hc hn h (by decide) (by decide) (by decide) (by decide) (by decide) (by decide) dn
  rcases t0.symm with ⟨o0, d0⟩ | ⟨o0, e0, v0, p0⟩
  · have q : (f_X4_readShares c.2.1 c.2.2 c.1 tp (nI n) dn) = (false, (S_X4_readShares_14 c.2.1 c.2.2 c.1 tp (nI n) dn).2.1, (S_X4_readShares_14 c.2.1 c.2.2 c.1 tp (nI n) dn).2.2.1, (S_X4_readShares_14 c.2.1 c.2.2 c.1 tp (nI n) dn).2.2.2.1, (S_X4_readShares_14 c.2.1 c.2.2 c.1 tp (nI n) dn).2.2.2.2) := by
      unfold f_X4_readShares
      simp only [o0, cond_true, cond_false]
    rw [q]
    exact Or.inr ⟨rfl, (numz_dead 0 100 (numz_dead 0 100 (numz_dead 0 100 d0)))⟩
  have t1 : ((S_X4_readShares_14a c.2.1 c.2.2 c.1 tp (nI n) dn).1 = true ∧ (S_X4_readShares_14a c.2.1 c.2.2 c.1 tp (nI n) dn).2.1 = upd (S_X4_readShares_14 c.2.1 c.2.2 c.1 tp (nI n) dn).2.1 2 (numz n mTape 0 100 s).2.2.2.2.2.2.1 ∧ (∃ v, (numz n mTape 0 100 s).2.2.2.2.2.2.1 = nI v ∧ 0 ≤ v ∧ v ≤ 100) ∧ PL E n tp (S_X4_readShares_14a c.2.1 c.2.2 c.1 tp (nI n) dn).2.2 (numz n mTape 0 100 (numz n mTape 0 100 s))) ∨ ((S_X4_readShares_14a c.2.1 c.2.2 c.1 tp (nI n) dn).1 = false ∧ PD (S_X4_readShares_14a c.2.1 c.2.2 c.1 tp (nI n) dn).2.2.2.2 (numz n mTape 0 100 (numz n mTape 0 100 s))) := by
    unfold S_X4_readShares_14a
    exact p_numA (x := 2) (lo := 0) (hi := 100) hc hn p0 (by decide) (by decide) (by decide) (by decide) (by decide) (by decide) (S_X4_readShares_14 c.2.1 c.2.2 c.1 tp (nI n) dn).2.1
  rcases t1.symm with ⟨o1, d1⟩ | ⟨o1, e1, v1, p1⟩
  · have q : (f_X4_readShares c.2.1 c.2.2 c.1 tp (nI n) dn) = (false, (S_X4_readShares_14a c.2.1 c.2.2 c.1 tp (nI n) dn).2.1, (S_X4_readShares_14a c.2.1 c.2.2 c.1 tp (nI n) dn).2.2.1, (S_X4_readShares_14a c.2.1 c.2.2 c.1 tp (nI n) dn).2.2.2.1, (S_X4_readShares_14a c.2.1 c.2.2 c.1 tp (nI n) dn).2.2.2.2) := by
      unfold f_X4_readShares
      simp only [o0, o1, cond_true, cond_false]
    rw [q]
    exact Or.inr ⟨rfl, (numz_dead 0 100 (numz_dead 0 100 d1))⟩
  have t2 : ((S_X4_readShares_14b c.2.1 c.2.2 c.1 tp (nI n) dn).1 = true ∧ (S_X4_readShares_14b c.2.1 c.2.2 c.1 tp (nI n) dn).2.1 = upd (S_X4_readShares_14a c.2.1 c.2.2 c.1 tp (nI n) dn).2.1 3 (numz n mTape 0 100 (numz n mTape 0 100 s)).2.2.2.2.2.2.1 ∧ (∃ v, (numz n mTape 0 100 (numz n mTape 0 100 s)).2.2.2.2.2.2.1 = nI v ∧ 0 ≤ v ∧ v ≤ 100) ∧ PL E n tp (S_X4_readShares_14b c.2.1 c.2.2 c.1 tp (nI n) dn).2.2 (numz n mTape 0 100 (numz n mTape 0 100 (numz n mTape 0 100 s)))) ∨ ((S_X4_readShares_14b c.2.1 c.2.2 c.1 tp (nI n) dn).1 = false ∧ PD (S_X4_readShares_14b c.2.1 c.2.2 c.1 tp (nI n) dn).2.2.2.2 (numz n mTape 0 100 (numz n mTape 0 100 (numz n mTape 0 100 s)))) := by
    unfold S_X4_readShares_14b
    exact p_numA (x := 3) (lo := 0) (hi := 100) hc hn p1 (by decide) (by decide) (by decide) (by decide) (by decide) (by decide) (S_X4_readShares_14a c.2.1 c.2.2 c.1 tp (nI n) dn).2.1
  rcases t2.symm with ⟨o2, d2⟩ | ⟨o2, e2, v2, p2⟩
  · have q : (f_X4_readShares c.2.1 c.2.2 c.1 tp (nI n) dn) = (false, (S_X4_readShares_14b c.2.1 c.2.2 c.1 tp (nI n) dn).2.1, (S_X4_readShares_14b c.2.1 c.2.2 c.1 tp (nI n) dn).2.2.1, (S_X4_readShares_14b c.2.1 c.2.2 c.1 tp (nI n) dn).2.2.2.1, (S_X4_readShares_14b c.2.1 c.2.2 c.1 tp (nI n) dn).2.2.2.2) := by
      unfold f_X4_readShares
      simp only [o0, o1, o2, cond_true, cond_false]
    rw [q]
    exact Or.inr ⟨rfl, (numz_dead 0 100 d2)⟩
  have t3 : ((S_X4_readShares_14c c.2.1 c.2.2 c.1 tp (nI n) dn).1 = true ∧ (S_X4_readShares_14c c.2.1 c.2.2 c.1 tp (nI n) dn).2.1 = upd (S_X4_readShares_14b c.2.1 c.2.2 c.1 tp (nI n) dn).2.1 4 (numz n mTape 0 100 (numz n mTape 0 100 (numz n mTape 0 100 s))).2.2.2.2.2.2.1 ∧ (∃ v, (numz n mTape 0 100 (numz n mTape 0 100 (numz n mTape 0 100 s))).2.2.2.2.2.2.1 = nI v ∧ 0 ≤ v ∧ v ≤ 100) ∧ PL E n tp (S_X4_readShares_14c c.2.1 c.2.2 c.1 tp (nI n) dn).2.2 (numz n mTape 0 100 (numz n mTape 0 100 (numz n mTape 0 100 (numz n mTape 0 100 s))))) ∨ ((S_X4_readShares_14c c.2.1 c.2.2 c.1 tp (nI n) dn).1 = false ∧ PD (S_X4_readShares_14c c.2.1 c.2.2 c.1 tp (nI n) dn).2.2.2.2 (numz n mTape 0 100 (numz n mTape 0 100 (numz n mTape 0 100 (numz n mTape 0 100 s))))) := by
    unfold S_X4_readShares_14c
    exact p_numA (x := 4) (lo := 0) (hi := 100) hc hn p2 (by decide) (by decide) (by decide) (by decide) (by decide) (by decide) (S_X4_readShares_14b c.2.1 c.2.2 c.1 tp (nI n) dn).2.1
  rcases t3.symm with ⟨o3, d3⟩ | ⟨o3, e3, v3, p3⟩
  · have q : (f_X4_readShares c.2.1 c.2.2 c.1 tp (nI n) dn) = (false, (S_X4_readShares_14c c.2.1 c.2.2 c.1 tp (nI n) dn).2.1, (S_X4_readShares_14c c.2.1 c.2.2 c.1 tp (nI n) dn).2.2.1, (S_X4_readShares_14c c.2.1 c.2.2 c.1 tp (nI n) dn).2.2.2.1, (S_X4_readShares_14c c.2.1 c.2.2 c.1 tp (nI n) dn).2.2.2.2) := by
      unfold f_X4_readShares
      simp only [o0, o1, o2, o3, cond_true, cond_false]
    rw [q]
    exact Or.inr ⟨rfl, d3⟩
  have q : (f_X4_readShares c.2.1 c.2.2 c.1 tp (nI n) dn) = (true, (S_X4_readShares_14c c.2.1 c.2.2 c.1 tp (nI n) dn).2.1, (S_X4_readShares_14c c.2.1 c.2.2 c.1 tp (nI n) dn).2.2.1, (S_X4_readShares_14c c.2.1 c.2.2 c.1 tp (nI n) dn).2.2.2.1, (S_X4_readShares_14c c.2.1 c.2.2 c.1 tp (nI n) dn).2.2.2.2) := by
    unfold f_X4_readShares
    simp only [o0, o1, o2, o3, cond_true]
  rw [q]
  refine Or.inl ⟨rfl, ?_, ⟨v0, v1, v2, v3⟩, PL_eta p3⟩
  show (S_X4_readShares_14c c.2.1 c.2.2 c.1 tp (nI n) dn).2.1 = _
  rw [e3, e2, e1, e0]
theorem nz_any (s : TT) (a b : Nat → Int32) : ∀ i, i < 10 → nz n mTape s a i = nz n mTape s b i := by
  intro i hi
  unfold nz upd
  rcases (show i = 0 ∨ i = 1 ∨ i = 2 ∨ i = 3 ∨ i = 4 ∨ i = 5 ∨ i = 6 ∨ i = 7 ∨ i = 8 ∨ i = 9 by omega) with q | q | q | q | q | q | q | q | q | q <;> subst q <;> exact rfl
theorem p_numbers (hc : CH n tp mTape u) (hn : n ≤ 800) (h : PL E n tp c s) (dn : Nat → Int32) : ((f_X4_readNumbers c.2.1 c.2.2 c.1 tp (nI n) dn).1 = true ∧ (f_X4_readNumbers c.2.1 c.2.2 c.1 tp (nI n) dn).2.1 = nz n mTape s dn ∧ NR (nz n mTape s dn) ∧ PL E n tp (f_X4_readNumbers c.2.1 c.2.2 c.1 tp (nI n) dn).2.2 (rz18 n mTape s)) ∨ ((f_X4_readNumbers c.2.1 c.2.2 c.1 tp (nI n) dn).1 = false ∧ PD (f_X4_readNumbers c.2.1 c.2.2 c.1 tp (nI n) dn).2.2.2.2 (rz18 n mTape s)) := by
  have t3 : ((S_X4_readNumbers_3 c.2.1 c.2.2 c.1 tp (nI n)).1 = true ∧ PL E n tp (S_X4_readNumbers_3 c.2.1 c.2.2 c.1 tp (nI n)).2 (rz1 n mTape s)) ∨ ((S_X4_readNumbers_3 c.2.1 c.2.2 c.1 tp (nI n)).1 = false ∧ PD (S_X4_readNumbers_3 c.2.1 c.2.2 c.1 tp (nI n)).2.2.2 (rz1 n mTape s)) := by
    unfold S_X4_readNumbers_3
    rw [rzd1]
    exact p_word (x := 0) hc hn h (by decide)
  rcases t3.symm with ⟨o3, d3⟩ | ⟨o3, p3⟩
  · have q : (f_X4_readNumbers c.2.1 c.2.2 c.1 tp (nI n) dn) = (false, dn, (S_X4_readNumbers_3 c.2.1 c.2.2 c.1 tp (nI n)).2.1, (S_X4_readNumbers_3 c.2.1 c.2.2 c.1 tp (nI n)).2.2.1, (S_X4_readNumbers_3 c.2.1 c.2.2 c.1 tp (nI n)).2.2.2) := by
      unfold f_X4_readNumbers
      simp only [o3, cond_true, cond_false]
    exact Or.inr (dead_out (x := (S_X4_readNumbers_3 c.2.1 c.2.2 c.1 tp (nI n)).2) q (dz1 d3))
  have t14 : ((S_X4_readNumbers_14 c.2.1 c.2.2 c.1 tp (nI n) dn).1 = true ∧ (S_X4_readNumbers_14 c.2.1 c.2.2 c.1 tp (nI n) dn).2.1 = upd dn 0 (rz1 n mTape s).2.2.2.2.2.2.1 ∧ (∃ v, (rz1 n mTape s).2.2.2.2.2.2.1 = nI v ∧ 1 ≤ v ∧ v ≤ 100) ∧ PL E n tp (S_X4_readNumbers_14 c.2.1 c.2.2 c.1 tp (nI n) dn).2.2 (rz2 n mTape s)) ∨ ((S_X4_readNumbers_14 c.2.1 c.2.2 c.1 tp (nI n) dn).1 = false ∧ PD (S_X4_readNumbers_14 c.2.1 c.2.2 c.1 tp (nI n) dn).2.2.2.2 (rz2 n mTape s)) := by
    unfold S_X4_readNumbers_14
    rw [rzd2]
    exact p_numA (x := 0) (lo := 1) (hi := 100) hc hn p3 (by decide) (by decide) (by decide) (by decide) (by decide) (by decide) dn
  rcases t14.symm with ⟨o14, d14⟩ | ⟨o14, e14, v2, p14⟩
  · have q : (f_X4_readNumbers c.2.1 c.2.2 c.1 tp (nI n) dn) = (false, (S_X4_readNumbers_14 c.2.1 c.2.2 c.1 tp (nI n) dn).2.1, (S_X4_readNumbers_14 c.2.1 c.2.2 c.1 tp (nI n) dn).2.2.1, (S_X4_readNumbers_14 c.2.1 c.2.2 c.1 tp (nI n) dn).2.2.2.1, (S_X4_readNumbers_14 c.2.1 c.2.2 c.1 tp (nI n) dn).2.2.2.2) := by
      unfold f_X4_readNumbers
      simp only [o3, o14, cond_true, cond_false]
    exact Or.inr (dead_out (x := (S_X4_readNumbers_14 c.2.1 c.2.2 c.1 tp (nI n) dn).2.2) q (dz2 d14))
  have t23 : ((S_X4_readNumbers_23 c.2.1 c.2.2 c.1 tp (nI n) dn).1 = true ∧ PL E n tp (S_X4_readNumbers_23 c.2.1 c.2.2 c.1 tp (nI n) dn).2 (rz3 n mTape s)) ∨ ((S_X4_readNumbers_23 c.2.1 c.2.2 c.1 tp (nI n) dn).1 = false ∧ PD (S_X4_readNumbers_23 c.2.1 c.2.2 c.1 tp (nI n) dn).2.2.2 (rz3 n mTape s)) := by
    unfold S_X4_readNumbers_23
    rw [rzd3]
    exact p_word (x := 1) hc hn p14 (by decide)
  rcases t23.symm with ⟨o23, d23⟩ | ⟨o23, p23⟩
  · have q : (f_X4_readNumbers c.2.1 c.2.2 c.1 tp (nI n) dn) = (false, (S_X4_readNumbers_14 c.2.1 c.2.2 c.1 tp (nI n) dn).2.1, (S_X4_readNumbers_23 c.2.1 c.2.2 c.1 tp (nI n) dn).2.1, (S_X4_readNumbers_23 c.2.1 c.2.2 c.1 tp (nI n) dn).2.2.1, (S_X4_readNumbers_23 c.2.1 c.2.2 c.1 tp (nI n) dn).2.2.2) := by
      unfold f_X4_readNumbers
      simp only [o3, o14, o23, cond_true, cond_false]
    exact Or.inr (dead_out (x := (S_X4_readNumbers_23 c.2.1 c.2.2 c.1 tp (nI n) dn).2) q (dz3 d23))
  have t30 : ((S_X4_readNumbers_30 c.2.1 c.2.2 c.1 tp (nI n) dn).1 = true ∧ (S_X4_readNumbers_30 c.2.1 c.2.2 c.1 tp (nI n) dn).2.1 = (upd (upd (upd (upd (S_X4_readNumbers_14 c.2.1 c.2.2 c.1 tp (nI n) dn).2.1 1 (rz3 n mTape s).2.2.2.2.2.2.1) 2 (rz4 n mTape s).2.2.2.2.2.2.1) 3 (rz5 n mTape s).2.2.2.2.2.2.1) 4 (rz6 n mTape s).2.2.2.2.2.2.1) ∧ ((∃ v, (rz3 n mTape s).2.2.2.2.2.2.1 = nI v ∧ 0 ≤ v ∧ v ≤ 100) ∧ (∃ v, (rz4 n mTape s).2.2.2.2.2.2.1 = nI v ∧ 0 ≤ v ∧ v ≤ 100) ∧ (∃ v, (rz5 n mTape s).2.2.2.2.2.2.1 = nI v ∧ 0 ≤ v ∧ v ≤ 100) ∧ (∃ v, (rz6 n mTape s).2.2.2.2.2.2.1 = nI v ∧ 0 ≤ v ∧ v ≤ 100)) ∧ PL E n tp (S_X4_readNumbers_30 c.2.1 c.2.2 c.1 tp (nI n) dn).2.2 (rz7 n mTape s)) ∨ ((S_X4_readNumbers_30 c.2.1 c.2.2 c.1 tp (nI n) dn).1 = false ∧ PD (S_X4_readNumbers_30 c.2.1 c.2.2 c.1 tp (nI n) dn).2.2.2.2 (rz7 n mTape s)) := by
    unfold S_X4_readNumbers_30
    rw [rzd7, rzd6, rzd5, rzd4]
    exact p_shares hc hn p23 (S_X4_readNumbers_14 c.2.1 c.2.2 c.1 tp (nI n) dn).2.1
  rcases t30.symm with ⟨o30, d30⟩ | ⟨o30, e30, ⟨v4, v5, v6, v7⟩, p30⟩
  · have q : (f_X4_readNumbers c.2.1 c.2.2 c.1 tp (nI n) dn) = (false, (S_X4_readNumbers_30 c.2.1 c.2.2 c.1 tp (nI n) dn).2.1, (S_X4_readNumbers_30 c.2.1 c.2.2 c.1 tp (nI n) dn).2.2.1, (S_X4_readNumbers_30 c.2.1 c.2.2 c.1 tp (nI n) dn).2.2.2.1, (S_X4_readNumbers_30 c.2.1 c.2.2 c.1 tp (nI n) dn).2.2.2.2) := by
      unfold f_X4_readNumbers
      simp only [o3, o14, o23, o30, cond_true, cond_false]
    exact Or.inr (dead_out (x := (S_X4_readNumbers_30 c.2.1 c.2.2 c.1 tp (nI n) dn).2.2) q (dz7 d30))
  have t39 : ((S_X4_readNumbers_39 c.2.1 c.2.2 c.1 tp (nI n) dn).1 = true ∧ PL E n tp (S_X4_readNumbers_39 c.2.1 c.2.2 c.1 tp (nI n) dn).2 (rz8 n mTape s)) ∨ ((S_X4_readNumbers_39 c.2.1 c.2.2 c.1 tp (nI n) dn).1 = false ∧ PD (S_X4_readNumbers_39 c.2.1 c.2.2 c.1 tp (nI n) dn).2.2.2 (rz8 n mTape s)) := by
    unfold S_X4_readNumbers_39
    rw [rzd8]
    exact p_word (x := 2) hc hn p30 (by decide)
  rcases t39.symm with ⟨o39, d39⟩ | ⟨o39, p39⟩
  · have q : (f_X4_readNumbers c.2.1 c.2.2 c.1 tp (nI n) dn) = (false, (S_X4_readNumbers_30 c.2.1 c.2.2 c.1 tp (nI n) dn).2.1, (S_X4_readNumbers_39 c.2.1 c.2.2 c.1 tp (nI n) dn).2.1, (S_X4_readNumbers_39 c.2.1 c.2.2 c.1 tp (nI n) dn).2.2.1, (S_X4_readNumbers_39 c.2.1 c.2.2 c.1 tp (nI n) dn).2.2.2) := by
      unfold f_X4_readNumbers
      simp only [o3, o14, o23, o30, o39, cond_true, cond_false]
    exact Or.inr (dead_out (x := (S_X4_readNumbers_39 c.2.1 c.2.2 c.1 tp (nI n) dn).2) q (dz8 d39))
  have t50 : ((S_X4_readNumbers_50 c.2.1 c.2.2 c.1 tp (nI n) dn).1 = true ∧ (S_X4_readNumbers_50 c.2.1 c.2.2 c.1 tp (nI n) dn).2.1 = upd (S_X4_readNumbers_30 c.2.1 c.2.2 c.1 tp (nI n) dn).2.1 5 (rz8 n mTape s).2.2.2.2.2.2.1 ∧ (∃ v, (rz8 n mTape s).2.2.2.2.2.2.1 = nI v ∧ 0 ≤ v ∧ v ≤ 9) ∧ PL E n tp (S_X4_readNumbers_50 c.2.1 c.2.2 c.1 tp (nI n) dn).2.2 (rz9 n mTape s)) ∨ ((S_X4_readNumbers_50 c.2.1 c.2.2 c.1 tp (nI n) dn).1 = false ∧ PD (S_X4_readNumbers_50 c.2.1 c.2.2 c.1 tp (nI n) dn).2.2.2.2 (rz9 n mTape s)) := by
    unfold S_X4_readNumbers_50
    rw [rzd9]
    exact p_numA (x := 5) (lo := 0) (hi := 9) hc hn p39 (by decide) (by decide) (by decide) (by decide) (by decide) (by decide) (S_X4_readNumbers_30 c.2.1 c.2.2 c.1 tp (nI n) dn).2.1
  rcases t50.symm with ⟨o50, d50⟩ | ⟨o50, e50, v9, p50⟩
  · have q : (f_X4_readNumbers c.2.1 c.2.2 c.1 tp (nI n) dn) = (false, (S_X4_readNumbers_50 c.2.1 c.2.2 c.1 tp (nI n) dn).2.1, (S_X4_readNumbers_50 c.2.1 c.2.2 c.1 tp (nI n) dn).2.2.1, (S_X4_readNumbers_50 c.2.1 c.2.2 c.1 tp (nI n) dn).2.2.2.1, (S_X4_readNumbers_50 c.2.1 c.2.2 c.1 tp (nI n) dn).2.2.2.2) := by
      unfold f_X4_readNumbers
      simp only [o3, o14, o23, o30, o39, o50, cond_true, cond_false]
    exact Or.inr (dead_out (x := (S_X4_readNumbers_50 c.2.1 c.2.2 c.1 tp (nI n) dn).2.2) q (dz9 d50))
  have t59 : ((S_X4_readNumbers_59 c.2.1 c.2.2 c.1 tp (nI n) dn).1 = true ∧ PL E n tp (S_X4_readNumbers_59 c.2.1 c.2.2 c.1 tp (nI n) dn).2 (rz10 n mTape s)) ∨ ((S_X4_readNumbers_59 c.2.1 c.2.2 c.1 tp (nI n) dn).1 = false ∧ PD (S_X4_readNumbers_59 c.2.1 c.2.2 c.1 tp (nI n) dn).2.2.2 (rz10 n mTape s)) := by
    unfold S_X4_readNumbers_59
    rw [rzd10]
    exact p_word (x := 3) hc hn p50 (by decide)
  rcases t59.symm with ⟨o59, d59⟩ | ⟨o59, p59⟩
  · have q : (f_X4_readNumbers c.2.1 c.2.2 c.1 tp (nI n) dn) = (false, (S_X4_readNumbers_50 c.2.1 c.2.2 c.1 tp (nI n) dn).2.1, (S_X4_readNumbers_59 c.2.1 c.2.2 c.1 tp (nI n) dn).2.1, (S_X4_readNumbers_59 c.2.1 c.2.2 c.1 tp (nI n) dn).2.2.1, (S_X4_readNumbers_59 c.2.1 c.2.2 c.1 tp (nI n) dn).2.2.2) := by
      unfold f_X4_readNumbers
      simp only [o3, o14, o23, o30, o39, o50, o59, cond_true, cond_false]
    exact Or.inr (dead_out (x := (S_X4_readNumbers_59 c.2.1 c.2.2 c.1 tp (nI n) dn).2) q (dz10 d59))
  have t71 : ((S_X4_readNumbers_71 c.2.1 c.2.2 c.1 tp (nI n) dn).1 = true ∧ (S_X4_readNumbers_71 c.2.1 c.2.2 c.1 tp (nI n) dn).2.1 = upd (S_X4_readNumbers_50 c.2.1 c.2.2 c.1 tp (nI n) dn).2.1 6 (rz10 n mTape s).2.2.2.2.2.2.1 ∧ (∃ v, (rz10 n mTape s).2.2.2.2.2.2.1 = nI v ∧ 1 ≤ v ∧ v ≤ 20) ∧ PL E n tp (S_X4_readNumbers_71 c.2.1 c.2.2 c.1 tp (nI n) dn).2.2 (rz11 n mTape s)) ∨ ((S_X4_readNumbers_71 c.2.1 c.2.2 c.1 tp (nI n) dn).1 = false ∧ PD (S_X4_readNumbers_71 c.2.1 c.2.2 c.1 tp (nI n) dn).2.2.2.2 (rz11 n mTape s)) := by
    unfold S_X4_readNumbers_71
    rw [rzd11]
    exact p_numA (x := 6) (lo := 1) (hi := 20) hc hn p59 (by decide) (by decide) (by decide) (by decide) (by decide) (by decide) (S_X4_readNumbers_50 c.2.1 c.2.2 c.1 tp (nI n) dn).2.1
  rcases t71.symm with ⟨o71, d71⟩ | ⟨o71, e71, v11, p71⟩
  · have q : (f_X4_readNumbers c.2.1 c.2.2 c.1 tp (nI n) dn) = (false, (S_X4_readNumbers_71 c.2.1 c.2.2 c.1 tp (nI n) dn).2.1, (S_X4_readNumbers_71 c.2.1 c.2.2 c.1 tp (nI n) dn).2.2.1, (S_X4_readNumbers_71 c.2.1 c.2.2 c.1 tp (nI n) dn).2.2.2.1, (S_X4_readNumbers_71 c.2.1 c.2.2 c.1 tp (nI n) dn).2.2.2.2) := by
      unfold f_X4_readNumbers
      simp only [o3, o14, o23, o30, o39, o50, o59, o71, cond_true, cond_false]
    exact Or.inr (dead_out (x := (S_X4_readNumbers_71 c.2.1 c.2.2 c.1 tp (nI n) dn).2.2) q (dz11 d71))
  have t80 : ((S_X4_readNumbers_80 c.2.1 c.2.2 c.1 tp (nI n) dn).1 = true ∧ PL E n tp (S_X4_readNumbers_80 c.2.1 c.2.2 c.1 tp (nI n) dn).2 (rz12 n mTape s)) ∨ ((S_X4_readNumbers_80 c.2.1 c.2.2 c.1 tp (nI n) dn).1 = false ∧ PD (S_X4_readNumbers_80 c.2.1 c.2.2 c.1 tp (nI n) dn).2.2.2 (rz12 n mTape s)) := by
    unfold S_X4_readNumbers_80
    rw [rzd12]
    exact p_word (x := 4) hc hn p71 (by decide)
  rcases t80.symm with ⟨o80, d80⟩ | ⟨o80, p80⟩
  · have q : (f_X4_readNumbers c.2.1 c.2.2 c.1 tp (nI n) dn) = (false, (S_X4_readNumbers_71 c.2.1 c.2.2 c.1 tp (nI n) dn).2.1, (S_X4_readNumbers_80 c.2.1 c.2.2 c.1 tp (nI n) dn).2.1, (S_X4_readNumbers_80 c.2.1 c.2.2 c.1 tp (nI n) dn).2.2.1, (S_X4_readNumbers_80 c.2.1 c.2.2 c.1 tp (nI n) dn).2.2.2) := by
      unfold f_X4_readNumbers
      simp only [o3, o14, o23, o30, o39, o50, o59, o71, o80, cond_true, cond_false]
    exact Or.inr (dead_out (x := (S_X4_readNumbers_80 c.2.1 c.2.2 c.1 tp (nI n) dn).2) q (dz12 d80))
  have t92 : ((S_X4_readNumbers_92 c.2.1 c.2.2 c.1 tp (nI n) dn).1 = true ∧ (S_X4_readNumbers_92 c.2.1 c.2.2 c.1 tp (nI n) dn).2.1 = upd (S_X4_readNumbers_71 c.2.1 c.2.2 c.1 tp (nI n) dn).2.1 7 (rz12 n mTape s).2.2.2.2.2.2.1 ∧ (∃ v, (rz12 n mTape s).2.2.2.2.2.2.1 = nI v ∧ 0 ≤ v ∧ v ≤ 9) ∧ PL E n tp (S_X4_readNumbers_92 c.2.1 c.2.2 c.1 tp (nI n) dn).2.2 (rz13 n mTape s)) ∨ ((S_X4_readNumbers_92 c.2.1 c.2.2 c.1 tp (nI n) dn).1 = false ∧ PD (S_X4_readNumbers_92 c.2.1 c.2.2 c.1 tp (nI n) dn).2.2.2.2 (rz13 n mTape s)) := by
    unfold S_X4_readNumbers_92
    rw [rzd13]
    exact p_numA (x := 7) (lo := 0) (hi := 9) hc hn p80 (by decide) (by decide) (by decide) (by decide) (by decide) (by decide) (S_X4_readNumbers_71 c.2.1 c.2.2 c.1 tp (nI n) dn).2.1
  rcases t92.symm with ⟨o92, d92⟩ | ⟨o92, e92, v13, p92⟩
  · have q : (f_X4_readNumbers c.2.1 c.2.2 c.1 tp (nI n) dn) = (false, (S_X4_readNumbers_92 c.2.1 c.2.2 c.1 tp (nI n) dn).2.1, (S_X4_readNumbers_92 c.2.1 c.2.2 c.1 tp (nI n) dn).2.2.1, (S_X4_readNumbers_92 c.2.1 c.2.2 c.1 tp (nI n) dn).2.2.2.1, (S_X4_readNumbers_92 c.2.1 c.2.2 c.1 tp (nI n) dn).2.2.2.2) := by
      unfold f_X4_readNumbers
      simp only [o3, o14, o23, o30, o39, o50, o59, o71, o80, o92, cond_true, cond_false]
    exact Or.inr (dead_out (x := (S_X4_readNumbers_92 c.2.1 c.2.2 c.1 tp (nI n) dn).2.2) q (dz13 d92))
  have t101 : ((S_X4_readNumbers_101 c.2.1 c.2.2 c.1 tp (nI n) dn).1 = true ∧ PL E n tp (S_X4_readNumbers_101 c.2.1 c.2.2 c.1 tp (nI n) dn).2 (rz14 n mTape s)) ∨ ((S_X4_readNumbers_101 c.2.1 c.2.2 c.1 tp (nI n) dn).1 = false ∧ PD (S_X4_readNumbers_101 c.2.1 c.2.2 c.1 tp (nI n) dn).2.2.2 (rz14 n mTape s)) := by
    unfold S_X4_readNumbers_101
    rw [rzd14]
    exact p_word (x := 5) hc hn p92 (by decide)
  rcases t101.symm with ⟨o101, d101⟩ | ⟨o101, p101⟩
  · have q : (f_X4_readNumbers c.2.1 c.2.2 c.1 tp (nI n) dn) = (false, (S_X4_readNumbers_92 c.2.1 c.2.2 c.1 tp (nI n) dn).2.1, (S_X4_readNumbers_101 c.2.1 c.2.2 c.1 tp (nI n) dn).2.1, (S_X4_readNumbers_101 c.2.1 c.2.2 c.1 tp (nI n) dn).2.2.1, (S_X4_readNumbers_101 c.2.1 c.2.2 c.1 tp (nI n) dn).2.2.2) := by
      unfold f_X4_readNumbers
      simp only [o3, o14, o23, o30, o39, o50, o59, o71, o80, o92, o101, cond_true, cond_false]
    exact Or.inr (dead_out (x := (S_X4_readNumbers_101 c.2.1 c.2.2 c.1 tp (nI n) dn).2) q (dz14 d101))
  have t113 : ((S_X4_readNumbers_113 c.2.1 c.2.2 c.1 tp (nI n) dn).1 = true ∧ (S_X4_readNumbers_113 c.2.1 c.2.2 c.1 tp (nI n) dn).2.1 = upd (S_X4_readNumbers_92 c.2.1 c.2.2 c.1 tp (nI n) dn).2.1 8 (rz14 n mTape s).2.2.2.2.2.2.1 ∧ (∃ v, (rz14 n mTape s).2.2.2.2.2.2.1 = nI v ∧ 0 ≤ v ∧ v ≤ 30) ∧ PL E n tp (S_X4_readNumbers_113 c.2.1 c.2.2 c.1 tp (nI n) dn).2.2 (rz15 n mTape s)) ∨ ((S_X4_readNumbers_113 c.2.1 c.2.2 c.1 tp (nI n) dn).1 = false ∧ PD (S_X4_readNumbers_113 c.2.1 c.2.2 c.1 tp (nI n) dn).2.2.2.2 (rz15 n mTape s)) := by
    unfold S_X4_readNumbers_113
    rw [rzd15]
    exact p_numA (x := 8) (lo := 0) (hi := 30) hc hn p101 (by decide) (by decide) (by decide) (by decide) (by decide) (by decide) (S_X4_readNumbers_92 c.2.1 c.2.2 c.1 tp (nI n) dn).2.1
  rcases t113.symm with ⟨o113, d113⟩ | ⟨o113, e113, v15, p113⟩
  · have q : (f_X4_readNumbers c.2.1 c.2.2 c.1 tp (nI n) dn) = (false, (S_X4_readNumbers_113 c.2.1 c.2.2 c.1 tp (nI n) dn).2.1, (S_X4_readNumbers_113 c.2.1 c.2.2 c.1 tp (nI n) dn).2.2.1, (S_X4_readNumbers_113 c.2.1 c.2.2 c.1 tp (nI n) dn).2.2.2.1, (S_X4_readNumbers_113 c.2.1 c.2.2 c.1 tp (nI n) dn).2.2.2.2) := by
      unfold f_X4_readNumbers
      simp only [o3, o14, o23, o30, o39, o50, o59, o71, o80, o92, o101, o113, cond_true, cond_false]
    exact Or.inr (dead_out (x := (S_X4_readNumbers_113 c.2.1 c.2.2 c.1 tp (nI n) dn).2.2) q (dz15 d113))
  have t122 : ((S_X4_readNumbers_122 c.2.1 c.2.2 c.1 tp (nI n) dn).1 = true ∧ PL E n tp (S_X4_readNumbers_122 c.2.1 c.2.2 c.1 tp (nI n) dn).2 (rz16 n mTape s)) ∨ ((S_X4_readNumbers_122 c.2.1 c.2.2 c.1 tp (nI n) dn).1 = false ∧ PD (S_X4_readNumbers_122 c.2.1 c.2.2 c.1 tp (nI n) dn).2.2.2 (rz16 n mTape s)) := by
    unfold S_X4_readNumbers_122
    rw [rzd16]
    exact p_word (x := 6) hc hn p113 (by decide)
  rcases t122.symm with ⟨o122, d122⟩ | ⟨o122, p122⟩
  · have q : (f_X4_readNumbers c.2.1 c.2.2 c.1 tp (nI n) dn) = (false, (S_X4_readNumbers_113 c.2.1 c.2.2 c.1 tp (nI n) dn).2.1, (S_X4_readNumbers_122 c.2.1 c.2.2 c.1 tp (nI n) dn).2.1, (S_X4_readNumbers_122 c.2.1 c.2.2 c.1 tp (nI n) dn).2.2.1, (S_X4_readNumbers_122 c.2.1 c.2.2 c.1 tp (nI n) dn).2.2.2) := by
      unfold f_X4_readNumbers
      simp only [o3, o14, o23, o30, o39, o50, o59, o71, o80, o92, o101, o113, o122, cond_true, cond_false]
    exact Or.inr (dead_out (x := (S_X4_readNumbers_122 c.2.1 c.2.2 c.1 tp (nI n) dn).2) q (dz16 d122))
  have t133 : ((S_X4_readNumbers_133 c.2.1 c.2.2 c.1 tp (nI n) dn).1 = true ∧ (S_X4_readNumbers_133 c.2.1 c.2.2 c.1 tp (nI n) dn).2.1 = upd (S_X4_readNumbers_113 c.2.1 c.2.2 c.1 tp (nI n) dn).2.1 9 (rz16 n mTape s).2.2.2.2.2.2.1 ∧ (∃ v, (rz16 n mTape s).2.2.2.2.2.2.1 = nI v ∧ 0 ≤ v ∧ v ≤ 3) ∧ PL E n tp (S_X4_readNumbers_133 c.2.1 c.2.2 c.1 tp (nI n) dn).2.2 (rz17 n mTape s)) ∨ ((S_X4_readNumbers_133 c.2.1 c.2.2 c.1 tp (nI n) dn).1 = false ∧ PD (S_X4_readNumbers_133 c.2.1 c.2.2 c.1 tp (nI n) dn).2.2.2.2 (rz17 n mTape s)) := by
    unfold S_X4_readNumbers_133
    rw [rzd17]
    exact p_numA (x := 9) (lo := 0) (hi := 3) hc hn p122 (by decide) (by decide) (by decide) (by decide) (by decide) (by decide) (S_X4_readNumbers_113 c.2.1 c.2.2 c.1 tp (nI n) dn).2.1
  rcases t133.symm with ⟨o133, d133⟩ | ⟨o133, e133, v17, p133⟩
  · have q : (f_X4_readNumbers c.2.1 c.2.2 c.1 tp (nI n) dn) = (false, (S_X4_readNumbers_133 c.2.1 c.2.2 c.1 tp (nI n) dn).2.1, (S_X4_readNumbers_133 c.2.1 c.2.2 c.1 tp (nI n) dn).2.2.1, (S_X4_readNumbers_133 c.2.1 c.2.2 c.1 tp (nI n) dn).2.2.2.1, (S_X4_readNumbers_133 c.2.1 c.2.2 c.1 tp (nI n) dn).2.2.2.2) := by
      unfold f_X4_readNumbers
      simp only [o3, o14, o23, o30, o39, o50, o59, o71, o80, o92, o101, o113, o122, o133, cond_true, cond_false]
    exact Or.inr (dead_out (x := (S_X4_readNumbers_133 c.2.1 c.2.2 c.1 tp (nI n) dn).2.2) q (dz17 d133))
  have t140 : ((S_X4_readNumbers_140 c.2.1 c.2.2 c.1 tp (nI n) dn).1 = true ∧ PL E n tp (S_X4_readNumbers_140 c.2.1 c.2.2 c.1 tp (nI n) dn).2 (rz18 n mTape s)) ∨ ((S_X4_readNumbers_140 c.2.1 c.2.2 c.1 tp (nI n) dn).1 = false ∧ PD (S_X4_readNumbers_140 c.2.1 c.2.2 c.1 tp (nI n) dn).2.2.2 (rz18 n mTape s)) := by
    unfold S_X4_readNumbers_140
    rw [rzd18]
    exact p_semi hc hn p133
  rcases t140.symm with ⟨o140, d140⟩ | ⟨o140, p140⟩
  · have q : (f_X4_readNumbers c.2.1 c.2.2 c.1 tp (nI n) dn) = (false, (S_X4_readNumbers_133 c.2.1 c.2.2 c.1 tp (nI n) dn).2.1, (S_X4_readNumbers_140 c.2.1 c.2.2 c.1 tp (nI n) dn).2.1, (S_X4_readNumbers_140 c.2.1 c.2.2 c.1 tp (nI n) dn).2.2.1, (S_X4_readNumbers_140 c.2.1 c.2.2 c.1 tp (nI n) dn).2.2.2) := by
      unfold f_X4_readNumbers
      simp only [o3, o14, o23, o30, o39, o50, o59, o71, o80, o92, o101, o113, o122, o133, o140, cond_true, cond_false]
    exact Or.inr (dead_out (x := (S_X4_readNumbers_140 c.2.1 c.2.2 c.1 tp (nI n) dn).2) q (dz18 d140))
  have q : (f_X4_readNumbers c.2.1 c.2.2 c.1 tp (nI n) dn) = (true, (S_X4_readNumbers_133 c.2.1 c.2.2 c.1 tp (nI n) dn).2.1, (S_X4_readNumbers_140 c.2.1 c.2.2 c.1 tp (nI n) dn).2.1, (S_X4_readNumbers_140 c.2.1 c.2.2 c.1 tp (nI n) dn).2.2.1, (S_X4_readNumbers_140 c.2.1 c.2.2 c.1 tp (nI n) dn).2.2.2) := by
    unfold f_X4_readNumbers
    simp only [o3, o14, o23, o30, o39, o50, o59, o71, o80, o92, o101, o113, o122, o133, o140, cond_true]
  have w := ok_out (x := (S_X4_readNumbers_140 c.2.1 c.2.2 c.1 tp (nI n) dn).2) q p140
  refine Or.inl ⟨w.1, w.2.1.trans ?_, ?_, w.2.2⟩
  · rw [e133, e113, e92, e71, e50, e30, e14]
    unfold nz
    rfl
  · have z : ∀ i w, nz n mTape s dn i = w → ∀ {m}, vp_in w m → vp_in (nz n mTape s dn i) m := fun i w q m hm => by rw [q]; exact hm
    refine ⟨⟨z 0 _ rfl (vr v2 (by decide)), fun q => vr0 v2 (by decide) (by decide) q⟩, fun i hi => ?_, z 5 _ rfl (vr v9 (by decide)), ⟨z 6 _ rfl (vr v11 (by decide)), fun q => vr0 v11 (by decide) (by decide) q⟩, z 7 _ rfl (vr v13 (by decide)), z 8 _ rfl (vr v15 (by decide)), z 9 _ rfl (vr v17 (by decide))⟩
    rcases (show i = 0 ∨ i = 1 ∨ i = 2 ∨ i = 3 by omega) with q | q | q | q
    · subst q; exact z 1 _ rfl (vr v4 (by decide))
    · subst q; exact z 2 _ rfl (vr v5 (by decide))
    · subst q; exact z 3 _ rfl (vr v6 (by decide))
    · subst q; exact z 4 _ rfl (vr v7 (by decide))
end NM
