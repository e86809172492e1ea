/-! numbers, in decimal -/
def kk (m : Nat) : Nat := wh_ (fun k => decide (m < 10 ^ (k + 1))) 9
def dgL (m : Nat) : Nat → List Nat
  | 0 => [48 + m % 10]
  | k + 1 => (48 + m / 10 ^ (k + 1) % 10) :: dgL m k
theorem kk_le (m : Nat) : kk m ≤ 9 := wh_le
theorem kk_lt {m : Nat} (h : m < 2 ^ 31) : m < 10 ^ (kk m + 1) := of_decide_eq_true (wh_yes 9 (fun k => decide (m < 10 ^ (k + 1))) ⟨9, Nat.le_refl _, decide_eq_true (Nat.lt_trans h (by decide))⟩)
theorem kk_no {m k : Nat} (h : k < kk m) : 10 ^ (k + 1) ≤ m := by
  have := of_decide_eq_false (wh_no 9 (fun k => decide (m < 10 ^ (k + 1))) k h)
  omega
theorem dg_in (m : Nat) : ∀ k x, x ∈ dgL m k → x < 128
  | 0, x, h => by
    have : x = 48 + m % 10 := by simpa [dgL] using h
    omega
  | k + 1, x, h => by
    rcases List.mem_cons.mp h with z | z
    · rw [z]
      omega
    · exact dg_in m k x z
theorem dg_len (m : Nat) : ∀ k, (dgL m k).length = k + 1
  | 0 => rfl
  | k + 1 => by
    show (dgL m k).length + 1 = _
    rw [dg_len m k]
theorem p10N : ∀ k, k ≤ 11 → 0 < 10 ^ k ∧ 10 ^ k ≤ 100000000000 := by decide
theorem p10i {k : Nat} (h : k ≤ 9) : 0 < 10 ^ k ∧ 10 ^ k ≤ 1000000000 := p10 k h
/-- the sign and the size of a number that both print alike -/
def mag (v : Int32) : Nat := if v < 0 then 1 else v.toNatClampNeg
def numL (v : Int32) : List Nat := (if v < 0 then [45] else []) ++ dgL (mag v) (kk (mag v))
theorem mag_lt (v : Int32) : mag v < 2 ^ 31 := by
  unfold mag
  by_cases q : v < 0
  · rw [if_pos q]
    decide
  · rw [if_neg q]
    exact nI_toNat_lt v
theorem numL_in (v : Int32) : ∀ x, x ∈ numL v → x < 128 := fun x h => by
  rcases List.mem_append.mp h with z | z
  · by_cases q : v < 0
    · rw [if_pos q] at z
      have : x = 45 := by simpa using z
      omega
    · rw [if_neg q] at z
      simp at z
  · exact dg_in _ _ x z
theorem numL_len (v : Int32) : (numL v).length ≤ 11 := by
  unfold numL
  rw [List.length_append, dg_len]
  have := kk_le (mag v)
  by_cases q : v < 0
  · rw [if_pos q]
    show 1 + _ ≤ 11
    omega
  · rw [if_neg q]
    show 0 + _ ≤ 11
    omega
/-! the reference -/
theorem m_unit {o w f v : Int32} {m : Nat} (hm : m < 2 ^ 31) (hj : (J_X12_saysNumber_3 o w f v).1 = nI m) : X_X12_saysNumber_17 o w f v = nI (10 ^ kk m) := by
  have key : ∀ r j, j + r = kk m → ∀ n, r < n → whl_ (T_X12_saysNumber_17 o w f v) n (nI (10 ^ j)) = nI (10 ^ kk m) := fun r => by
    induction r with
    | zero =>
      intro j hj2 n hn
      obtain ⟨n, rfl⟩ : ∃ n', n = n' + 1 := ⟨n - 1, by omega⟩
      have hj9 := kk_le m
      obtain ⟨p1, p2⟩ := p10i (k := j) (by omega)
      have hlt := kk_lt hm
      rw [← hj2, Nat.add_zero] at hlt
      refine whl_o ?_
      unfold T_X12_saysNumber_17
      have hdv : m / 10 ^ j ≤ 9 := by
        have : m / 10 ^ j < 10 := Nat.div_lt_of_lt_mul (by rw [← Nat.pow_succ]; exact hlt)
        omega
      rw [hj, pk_div hm p1 (by omega), if_pos (show nI (m / 10 ^ j) ≤ 9 from nI_le (b := 9) hdv (by omega)), ← hj2]
      rfl
    | succ r ih =>
      intro j hj2 n hn
      obtain ⟨n, rfl⟩ : ∃ n', n = n' + 1 := ⟨n - 1, by omega⟩
      have hj9 := kk_le m
      obtain ⟨p1, p2⟩ := p10i (k := j) (by omega)
      have hge := kk_no (m := m) (k := j) (by omega)
      refine (whl_i (s' := nI (10 ^ (j + 1))) ?_).trans (ih (j + 1) (by omega) n (by omega))
      unfold T_X12_saysNumber_17
      have hdv : 10 ≤ m / 10 ^ j := (Nat.le_div_iff_mul_le p1).mpr (by rw [Nat.mul_comm, ← Nat.pow_succ]; exact hge)
      have hle : m / 10 ^ j ≤ m := Nat.div_le_self _ _
      rw [hj, pk_div hm p1 (by omega), if_neg (show ¬ nI (m / 10 ^ j) ≤ 9 from nI_ge (a := 9) (by omega) (by omega)), show (10 : Int32) = nI 10 from rfl, pk_mul, Nat.pow_succ]
  exact key (kk m) 0 (by omega) 10 (by have := kk_le m; omega)
theorem m_digits {o w f v : Int32} {m : Nat} (hm : m < 2 ^ 31) (hj : (J_X12_saysNumber_3 o w f v).1 = nI m) : ∀ k, k ≤ 9 → ∀ n, k + 1 < n → ∀ s : Int32 × Int32, (whl_ (T_X12_saysNumber_33 o w f v) n (nI (10 ^ k), s.1, s.2)).2 = sL w s (dgL m k) := fun k => by
  have step : ∀ k, k ≤ 9 → ∀ s : Int32 × Int32, T_X12_saysNumber_33 o w f v (nI (10 ^ k), s.1, s.2) = .inl ((nI (10 ^ k) / 10), (sL w s [48 + m / 10 ^ k % 10]).1, (sL w s [48 + m / 10 ^ k % 10]).2) := fun k hk s => by
    obtain ⟨p1, p2⟩ := p10i hk
    have hle : m / 10 ^ k ≤ m := Nat.div_le_self _ _
    unfold T_X12_saysNumber_33 S_X12_saysNumber_47
    rw [if_neg (show ¬ nI (10 ^ k) ≤ 0 from nI_nle p1 (by omega)), hj]
    dsimp only
    rw [pk_div hm p1 (by omega), show (10 : Int32) = nI 10 from rfl, pk_rem (by omega) (by decide) (by decide), show (48 : Int32) = nI 48 from rfl, nI_add]
    rfl
  induction k with
  | zero =>
    intro hk n hn s
    obtain ⟨n, rfl⟩ : ∃ n', n = n' + 2 := ⟨n - 2, by omega⟩
    rw [whl_i (step 0 (by omega) s)]
    have e0 : (nI (10 ^ 0) / 10 : Int32) = 0 := by decide
    rw [e0, whl_o (t := (0, (sL w s [48 + m / 10 ^ 0 % 10]).1, (sL w s [48 + m / 10 ^ 0 % 10]).2)) (by
      unfold T_X12_saysNumber_33
      rw [if_pos (show (0 : Int32) ≤ 0 by decide)])]
    show sL w s [48 + m / 10 ^ 0 % 10] = sL w s [48 + m % 10]
    rw [Nat.pow_zero, Nat.div_one]
  | succ k ih =>
    intro hk n hn s
    obtain ⟨n, rfl⟩ : ∃ n', n = n' + 1 := ⟨n - 1, by omega⟩
    rw [whl_i (step (k + 1) (by omega) s)]
    obtain ⟨p1, p2⟩ := p10i (k := k + 1) (by omega)
    have e0 : nI (10 ^ (k + 1)) / 10 = nI (10 ^ k) := by
      rw [show (10 : Int32) = nI 10 from rfl, pk_div (by omega) (by decide) (by decide), Nat.pow_succ, Nat.mul_div_cancel _ (by decide)]
    rw [e0, ih (by omega) n (by omega) (sL w s [48 + m / 10 ^ (k + 1) % 10])]
    exact sL_app w s _ _
theorem says_num {v : Int32} (hv : lgOk v) (o w f : Int32) : f_X12_saysNumber o w f v = sL w (f, o) (numL v) := by
  have hm := mag_lt v
  have hj : J_X12_saysNumber_3 o w f v = (nI (mag v), (sL w (f, o) (if v < 0 then [45] else [])).1, (sL w (f, o) (if v < 0 then [45] else [])).2) := by
    unfold J_X12_saysNumber_3 mag
    by_cases q : v < 0
    · have e : v = -1 := by
        rcases hv with z | z
        · exact z
        · exact absurd q z
      rw [if_neg (Int32.not_le.mpr q), if_pos q, if_pos q, e]
      rfl
    · rw [if_pos (Int32.not_lt.mp q), if_neg q, if_neg q]
      obtain ⟨n, hn, rfl⟩ := nI_of q
      rw [nI_clamp hn]
      rfl
  have hj1 : (J_X12_saysNumber_3 o w f v).1 = nI (mag v) := by rw [hj]
  unfold f_X12_saysNumber
  have hx : (X_X12_saysNumber_33 o w f v).2 = sL w (f, o) (numL v) := by
    unfold X_X12_saysNumber_33
    rw [m_unit hm hj1, show (J_X12_saysNumber_3 o w f v).2.1 = (sL w (f, o) (if v < 0 then [45] else [])).1 by rw [hj], show (J_X12_saysNumber_3 o w f v).2.2 = (sL w (f, o) (if v < 0 then [45] else [])).2 by rw [hj]]
    rw [m_digits hm hj1 (kk (mag v)) (kk_le _) 11 (by have := kk_le (mag v); omega) (sL w (f, o) (if v < 0 then [45] else []))]
    exact sL_app w (f, o) _ _
  rw [hx]
/-! the class -/
theorem x_unit {f : Nat → Int32} {l v : Int32} {m : Nat} (hm : m < 2 ^ 31) (hj : (J_X1_addNumber_6 2048 f l v).1 = lN m) : (X_X1_addNumber_24 2048 f l v).2 = lN (10 ^ kk m) := by
  have key : ∀ r j, j + r = kk m → ∀ n, r < n → (whl_ (T_X1_addNumber_24 2048 f l v) n (nI (1 + j), lN (10 ^ j))).2 = lN (10 ^ kk m) := fun r => by
    induction r with
    | zero =>
      intro j hj2 n hn
      obtain ⟨n, rfl⟩ : ∃ n', n = n' + 1 := ⟨n - 1, by omega⟩
      have hj9 := kk_le m
      obtain ⟨p1, p2⟩ := p10N (j + 1) (by omega)
      have hlt := kk_lt hm
      rw [← hj2, Nat.add_zero] at hlt
      have ht : T_X1_addNumber_24 2048 f l v (nI (1 + j), lN (10 ^ j)) = .inr (nI (1 + j), lN (10 ^ j)) := by
        unfold T_X1_addNumber_24
        rw [hj]
        dsimp only
        rw [show (10 : Int64) = lN 10 from rfl, lN_mul, ← Nat.pow_succ, if_pos (show lN m < lN (10 ^ (j + 1)) from (pk_lLT (by omega) (by omega)).mpr hlt)]
        by_cases q : (11 : Int32) ≤ nI (1 + j)
        · rw [if_pos q]
        · rw [if_neg q]
      rw [whl_o ht, ← hj2]
      rfl
    | succ r ih =>
      intro j hj2 n hn
      obtain ⟨n, rfl⟩ : ∃ n', n = n' + 1 := ⟨n - 1, by omega⟩
      have hj9 := kk_le m
      obtain ⟨p1, p2⟩ := p10N (j + 1) (by omega)
      have hge := kk_no (m := m) (k := j) (by omega)
      have ht : T_X1_addNumber_24 2048 f l v (nI (1 + j), lN (10 ^ j)) = .inl (nI (1 + (j + 1)), lN (10 ^ (j + 1))) := by
        unfold T_X1_addNumber_24
        rw [hj]
        dsimp only
        rw [show (10 : Int64) = lN 10 from rfl, lN_mul, ← Nat.pow_succ, if_neg (show ¬ lN m < lN (10 ^ (j + 1)) from fun z => absurd ((pk_lLT (by omega) (by omega)).mp z) (by omega)), if_neg (show ¬ (11 : Int32) ≤ nI (1 + j) from nI_ge (b := 11) (by omega) (by omega)), nI_1]
        rfl
      rw [whl_i ht]
      exact ih (j + 1) (by omega) n (by omega)
  exact key (kk m) 0 (by omega) 11 (by have := kk_le m; omega)
theorem x_digits {f : Nat → Int32} {l v : Int32} {m : Nat} (hm : m < 2 ^ 31) (hj : (J_X1_addNumber_6 2048 f l v).1 = lN m) : ∀ k, k ≤ 9 → ∀ n, k + 1 < n → ∀ s : (Nat → Int32) × Int32, (whl_ (T_X1_addNumber_56 2048 f l v) n (lN (10 ^ k), s.1, s.2)).2 = aL s (dgL m k) := fun k => by
  have step : ∀ k, k ≤ 9 → ∀ s : (Nat → Int32) × Int32, T_X1_addNumber_56 2048 f l v (lN (10 ^ k), s.1, s.2) = .inl ((lN (10 ^ k) / 10), (aL s [48 + m / 10 ^ k % 10]).1, (aL s [48 + m / 10 ^ k % 10]).2) := fun k hk s => by
    obtain ⟨p1, p2⟩ := p10i hk
    have hle : m / 10 ^ k ≤ m := Nat.div_le_self _ _
    unfold T_X1_addNumber_56 S_X1_addNumber_77
    have hpos : ¬ lN (10 ^ k) ≤ 0 := fun z => absurd ((pk_lLE (b := 0) (by omega) (by omega)).mp z) (by omega)
    rw [if_neg hpos, hj]
    dsimp only
    rw [pk_lDiv (by omega) p1 (by omega), show (10 : Int64) = lN 10 from rfl, pk_lRem (by omega) (by decide) (by decide), show (48 : Int64) = lN 48 from rfl, lN_add, lN_i]
    rfl
  induction k with
  | zero =>
    intro hk n hn s
    obtain ⟨n, rfl⟩ : ∃ n', n = n' + 2 := ⟨n - 2, by omega⟩
    rw [whl_i (step 0 (by omega) s)]
    have e0 : (lN (10 ^ 0) / 10 : Int64) = 0 := by decide
    rw [e0, whl_o (t := (0, (aL s [48 + m / 10 ^ 0 % 10]).1, (aL s [48 + m / 10 ^ 0 % 10]).2)) (by
      unfold T_X1_addNumber_56
      rw [if_pos (show (0 : Int64) ≤ 0 by decide)])]
    show aL s [48 + m / 10 ^ 0 % 10] = aL s [48 + m % 10]
    rw [Nat.pow_zero, Nat.div_one]
  | succ k ih =>
    intro hk n hn s
    obtain ⟨n, rfl⟩ : ∃ n', n = n' + 1 := ⟨n - 1, by omega⟩
    rw [whl_i (step (k + 1) (by omega) s)]
    obtain ⟨p1, p2⟩ := p10i (k := k + 1) (by omega)
    have e0 : lN (10 ^ (k + 1)) / 10 = lN (10 ^ k) := by
      rw [show (10 : Int64) = lN 10 from rfl, pk_lDiv (by omega) (by decide) (by decide), Nat.pow_succ, Nat.mul_div_cancel _ (by decide)]
    rw [e0, ih (by omega) n (by omega) (aL s [48 + m / 10 ^ (k + 1) % 10])]
    exact aL_app s _ _
theorem add_num {v : Int32} (hv : lgOk v) (s : (Nat → Int32) × Int32) : f_X1_addNumber 2048 s.1 s.2 v = aL s (numL v) := by
  have hm := mag_lt v
  have hj : J_X1_addNumber_6 2048 s.1 s.2 v = (lN (mag v), (aL s (if v < 0 then [45] else [])).1, (aL s (if v < 0 then [45] else [])).2) := by
    unfold J_X1_addNumber_6 mag
    by_cases q : v < 0
    · have e : v = -1 := by
        rcases hv with z | z
        · exact z
        · exact absurd q z
      rw [if_pos q, if_pos q, e, if_neg (by decide)]
      rfl
    · rw [if_neg q, if_neg q]
      obtain ⟨n, hn, rfl⟩ := nI_of q
      rw [nI_clamp hn, nI_l hn, if_pos (show (0 : Int64) ≤ lN n from (lN_le (a := 0) (by decide) hn).mpr (Nat.zero_le _))]
      rfl
  have hj1 : (J_X1_addNumber_6 2048 s.1 s.2 v).1 = lN (mag v) := by rw [hj]
  unfold f_X1_addNumber
  have hx : (X_X1_addNumber_56 2048 s.1 s.2 v).2 = aL s (numL v) := by
    unfold X_X1_addNumber_56
    rw [x_unit hm hj1, show (J_X1_addNumber_6 2048 s.1 s.2 v).2.1 = (aL s (if v < 0 then [45] else [])).1 by rw [hj], show (J_X1_addNumber_6 2048 s.1 s.2 v).2.2 = (aL s (if v < 0 then [45] else [])).2 by rw [hj]]
    rw [x_digits hm hj1 (kk (mag v)) (kk_le _) 12 (by have := kk_le (mag v); omega) (aL s (if v < 0 then [45] else []))]
    exact aL_app s _ _
  rw [hx]
