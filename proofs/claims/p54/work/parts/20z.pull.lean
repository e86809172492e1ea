/-! general lemmas that later parts use -/
def whl_ {σ : Type} (f : σ → Sum σ σ) : Nat → σ → σ
  | 0, s => s
  | n + 1, s => match f s with
    | .inl s' => whl_ f n s'
    | .inr t => t
theorem whl_i {σ : Type} {f : σ → Sum σ σ} {n : Nat} {s s' : σ} (h : f s = .inl s') : whl_ f (n + 1) s = whl_ f n s' := by rw [whl_, h]
theorem whl_o {σ : Type} {f : σ → Sum σ σ} {n : Nat} {s t : σ} (h : f s = .inr t) : whl_ f (n + 1) s = t := by rw [whl_, h]
/-- a place in the tape -/
def rd_ (a b : Int32) : Prop := ∃ i j : Nat, a = nI i ∧ b = nI j ∧ i ≤ j ∧ j ≤ 800
def rdn (n : Nat) (a b : Int32) : Prop := ∃ i j : Nat, a = nI i ∧ b = nI j ∧ i ≤ j ∧ j ≤ 800 ∧ j < i + n
theorem rdn_0 {a b : Int32} : ¬ rdn 0 a b := fun ⟨i, j, _, _, h, _, h2⟩ => by omega
theorem rdn_rd {n : Nat} {a b : Int32} (h : rdn n a b) : rd_ a b := by
  obtain ⟨i, j, h1, h2, h3, h4, _⟩ := h
  exact ⟨i, j, h1, h2, h3, h4⟩
theorem rdn_of {a b : Int32} (h : rd_ a b) : rdn 801 a b := by
  obtain ⟨i, j, h1, h2, h3, h4⟩ := h
  exact ⟨i, j, h1, h2, h3, h4, by omega⟩
theorem rd_s {a b : Int32} (h : rd_ a b) (c : ¬ b ≤ a) : rd_ (a + 1) b := by
  obtain ⟨i, j, rfl, rfl, h3, h4⟩ := h
  have := mt (nI_leI (a := j) (b := i) (by omega) (by omega)).mpr c
  exact ⟨i + 1, j, (nI_succ i).symm, rfl, by omega, h4⟩
theorem rdn_s {n : Nat} {a b : Int32} (h : rdn (n + 1) a b) (c : ¬ b ≤ a) : rdn n (a + 1) b := by
  obtain ⟨i, j, rfl, rfl, h3, h4, h5⟩ := h
  have := mt (nI_leI (a := j) (b := i) (by omega) (by omega)).mpr c
  exact ⟨i + 1, j, (nI_succ i).symm, rfl, by omega, h4, by omega⟩
theorem lp_in0 {B : Int32} {n j N : Nat} (hN : N = B.toNatClampNeg) (h : n + (j + 1) = N) : ¬ B ≤ nI n := lp_in (s := 0) hN h
theorem lp_out0 {B : Int32} {N : Nat} (hN : N = B.toNatClampNeg) : ¬ ¬ B ≤ nI N := lp_out (s := 0) (by subst hN; exact (Nat.max_eq_left (Nat.zero_le _)).symm)
theorem lp_n {n j N : Nat} (h : n + (j + 1) = N) : n + 1 + j = N := by omega
theorem lp_lt {n j N : Nat} (h : n + (j + 1) = N) : n < N := by omega
