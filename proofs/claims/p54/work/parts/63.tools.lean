/-! loops that copy and shift; the log; what is remembered -/
theorem iter_copy {f : Nat → (Nat → Int32) → (Nat → Int32)} {g : Nat → Int32} {b N : Nat} (h : ∀ n s, n < N → f n s = upd s (b + n) (g n)) (r : Nat → Int32) : ∀ n, n ≤ N → iter_ f r n = fun j => if b ≤ j ∧ j < b + n then g (j - b) else r j
  | 0, _ => by
    rw [iter_z]
    funext j
    rw [if_neg (by omega)]
  | n + 1, hn => by
    rw [iter_s, iter_copy h r n (by omega), h n _ (by omega)]
    funext j
    unfold upd
    by_cases e : j = b + n
    · subst e
      rw [if_pos rfl, if_pos (by omega), show b + n - b = n by omega]
    · rw [if_neg e]
      show (if b ≤ j ∧ j < b + n then g (j - b) else r j) = _
      by_cases q : b ≤ j ∧ j < b + n
      · rw [if_pos q, if_pos (by omega)]
      · rw [if_neg q, if_neg (by omega)]
theorem iter_shift {f : Nat → (Nat → Int32) → (Nat → Int32)} {b k N : Nat} (hk : 0 < k) (h : ∀ n s, n < N → f n s = upd s (b + n) (s (b + n + k))) (r : Nat → Int32) : ∀ n, n ≤ N → iter_ f r n = fun j => if b ≤ j ∧ j < b + n then r (j + k) else r j
  | 0, _ => by
    rw [iter_z]
    funext j
    rw [if_neg (by omega)]
  | n + 1, hn => by
    rw [iter_s, iter_shift hk h r n (by omega), h n _ (by omega)]
    funext j
    unfold upd
    by_cases e : j = b + n
    · subst e
      rw [if_pos rfl]
      show (if b ≤ b + n + k ∧ b + n + k < b + n then r (b + n + k + k) else r (b + n + k)) = _
      rw [if_neg (by omega), if_pos (by omega)]
    · rw [if_neg e]
      show (if b ≤ j ∧ j < b + n then r (j + k) else r j) = _
      by_cases q : b ≤ j ∧ j < b + n
      · rw [if_pos q, if_pos (by omega)]
      · rw [if_neg q, if_neg (by omega)]
/-- a row of the log, told: n rows before it, m of them stay, shifted by s rows -/
def TL (mW : Nat → Int32) (m s : Nat) (v8 kd one two : Int32) : Nat → Int32 := fun j =>
  if j = 8 then v8 else if j = 279 + 4 * m + 3 then two else if j = 279 + 4 * m + 2 then one else if j = 279 + 4 * m + 1 then kd else if j = 279 + 4 * m then mW 0 else if 279 ≤ j ∧ j < 279 + 4 * m then mW (j + 4 * s) else mW j
theorem tells_sh (mW : Nat → Int32) : L_X12_tells_15 mW 116 = fun j => if 279 ≤ j ∧ j < 279 + 116 then mW (j + 4) else mW j := by
  refine iter_shift (b := 279) (k := 4) (N := 116) (by decide) (fun n s hn => ?_) mW 116 (Nat.le_refl _)
  have e1 : ((279 : Int32) + nI (n + 4) - 4).toNatClampNeg = 279 + n := by
    rw [show (279 : Int32) = nI 279 from rfl, show (4 : Int32) = nI 4 from rfl, nI_add, pk_sub (by omega), nI_clamp (by omega)]
    omega
  have e2 : ((279 : Int32) + nI (n + 4)).toNatClampNeg = 279 + n + 4 := by
    rw [show (279 : Int32) = nI 279 from rfl, nI_add, nI_clamp (by omega)]
    omega
  rw [e1, e2]
theorem tells_full {mW : Nat → Int32} (h : mW 8 = 30) (kd one two : Int32) : f_X12_tells mW kd one two = TL mW 29 1 30 kd one two := by
  unfold f_X12_tells
  rw [if_pos h]
  have hM8 : L_X12_tells_15 mW 116 8 = 30 := by
    rw [tells_sh]
    show (if 279 ≤ 8 ∧ 8 < 279 + 116 then mW (8 + 4) else mW 8) = 30
    rw [if_neg (by decide), h]
  have hM0 : L_X12_tells_15 mW 116 0 = mW 0 := by
    rw [tells_sh]
    show (if 279 ≤ 0 ∧ 0 < 279 + 116 then mW (0 + 4) else mW 0) = mW 0
    rw [if_neg (by decide)]
  have hMj : ∀ j, L_X12_tells_15 mW 116 j = if 279 ≤ j ∧ j < 279 + 116 then mW (j + 4) else mW j := fun j => by rw [tells_sh]
  generalize L_X12_tells_15 mW 116 = M at hM8 hM0 hMj
  have e8 : upd M 8 (M 8 - 1) 8 = 29 := by
    rw [upd_eq, hM8]
    decide
  have e0 : upd M 8 (M 8 - 1) 0 = mW 0 := by rw [upd_ne (by decide), hM0]
  rw [e8, e0, show ((279 : Int32) + 4 * 29).toNatClampNeg = 395 from by decide, show ((279 : Int32) + 4 * 29 + 1).toNatClampNeg = 396 from by decide, show ((279 : Int32) + 4 * 29 + 2).toNatClampNeg = 397 from by decide, show ((279 : Int32) + 4 * 29 + 3).toNatClampNeg = 398 from by decide]
  have e9 : upd (upd (upd (upd (upd M 8 (M 8 - 1)) 395 (mW 0)) 396 kd) 397 one) 398 two 8 = 29 := by
    rw [upd_ne (by decide), upd_ne (by decide), upd_ne (by decide), upd_ne (by decide), e8]
  rw [e9]
  funext j
  unfold TL
  show upd _ 8 _ j = if j = 8 then 30 else if j = 398 then two else if j = 397 then one else if j = 396 then kd else if j = 395 then mW 0 else if 279 ≤ j ∧ j < 395 then mW (j + 4) else mW j
  by_cases q8 : j = 8
  · subst q8
    rw [upd_eq, if_pos rfl]
    decide
  rw [upd_ne q8, if_neg q8]
  by_cases q3 : j = 398
  · subst q3
    rw [upd_eq, if_pos rfl]
  rw [upd_ne q3, if_neg q3]
  by_cases q2 : j = 397
  · subst q2
    rw [upd_eq, if_pos rfl]
  rw [upd_ne q2, if_neg q2]
  by_cases q1 : j = 396
  · subst q1
    rw [upd_eq, if_pos rfl]
  rw [upd_ne q1, if_neg q1]
  by_cases q0 : j = 395
  · subst q0
    rw [upd_eq, if_pos rfl]
  rw [upd_ne q0, if_neg q0, upd_ne q8, hMj]
theorem tells_part {mW : Nat → Int32} {n : Nat} (h : mW 8 = nI n) (hn : n < 30) (kd one two : Int32) : f_X12_tells mW kd one two = TL mW n 0 (nI (n + 1)) kd one two := by
  unfold f_X12_tells
  rw [if_neg (by rw [h]; exact fun q => absurd ((nI_eq (a := n) (b := 30) (by omega) (by omega)).mp q) (by omega))]
  have p0 : ((279 : Int32) + 4 * mW 8).toNatClampNeg = 279 + 4 * n := by
    rw [h, show (279 : Int32) = nI 279 from rfl, show (4 : Int32) = nI 4 from rfl, pk_mul, nI_add, nI_clamp (by omega)]
  have p1 : ((279 : Int32) + 4 * mW 8 + 1).toNatClampNeg = 279 + 4 * n + 1 := by
    rw [h, show (279 : Int32) = nI 279 from rfl, show (4 : Int32) = nI 4 from rfl, pk_mul, nI_add, nI_1, nI_clamp (by omega)]
  have p2 : ((279 : Int32) + 4 * mW 8 + 2).toNatClampNeg = 279 + 4 * n + 2 := by
    rw [h, show (279 : Int32) = nI 279 from rfl, show (4 : Int32) = nI 4 from rfl, show (2 : Int32) = nI 2 from rfl, pk_mul, nI_add, nI_add, nI_clamp (by omega)]
  have p3 : ((279 : Int32) + 4 * mW 8 + 3).toNatClampNeg = 279 + 4 * n + 3 := by
    rw [h, show (279 : Int32) = nI 279 from rfl, show (4 : Int32) = nI 4 from rfl, show (3 : Int32) = nI 3 from rfl, pk_mul, nI_add, nI_add, nI_clamp (by omega)]
  rw [p0, p1, p2, p3]
  have e9 : upd (upd (upd (upd mW (279 + 4 * n) (mW 0)) (279 + 4 * n + 1) kd) (279 + 4 * n + 2) one) (279 + 4 * n + 3) two 8 = nI n := by
    rw [upd_ne (by omega), upd_ne (by omega), upd_ne (by omega), upd_ne (by omega), h]
  rw [e9, nI_1]
  funext j
  unfold TL
  by_cases q8 : j = 8
  · subst q8
    rw [upd_eq, if_pos rfl]
  rw [upd_ne q8, if_neg q8]
  by_cases q3 : j = 279 + 4 * n + 3
  · subst q3
    rw [upd_eq, if_pos rfl]
  rw [upd_ne q3, if_neg q3]
  by_cases q2 : j = 279 + 4 * n + 2
  · subst q2
    rw [upd_eq, if_pos rfl]
  rw [upd_ne q2, if_neg q2]
  by_cases q1 : j = 279 + 4 * n + 1
  · subst q1
    rw [upd_eq, if_pos rfl]
  rw [upd_ne q1, if_neg q1]
  by_cases q0 : j = 279 + 4 * n
  · subst q0
    rw [upd_eq, if_pos rfl]
  rw [upd_ne q0, if_neg q0]
  by_cases qi : 279 ≤ j ∧ j < 279 + 4 * n
  · rw [if_pos qi]
    rfl
  · rw [if_neg qi]
theorem lgK {n : Nat} (h : n < 2 ^ 31) : lgOk (nI n) := Or.inr (nI_pos h)
theorem lgV {x : Int32} {n : Nat} (h : vp_in x n) : lgOk x := Or.inr (fun q => h (Or.inl q))
/-- both at once -/
theorem tells_TL {mW : Nat → Int32} {n : Nat} (h : mW 8 = nI n) (hn : n ≤ 30) (kd one two : Int32) : ∃ m s, f_X12_tells mW kd one two = TL mW m s (nI (m + 1)) kd one two ∧ m < 30 ∧ m + s = n ∧ (s = 0 ∨ n = 30) ∧ s ≤ 1 := by
  by_cases q : n < 30
  · exact ⟨n, 0, tells_part h q kd one two, q, rfl, Or.inl rfl, by omega⟩
  · have e : n = 30 := by omega
    subst e
    exact ⟨29, 1, tells_full h kd one two, by omega, rfl, Or.inr rfl, by omega⟩
theorem TL_out {mW : Nat → Int32} {m s : Nat} {v8 kd one two : Int32} (hm : m < 30) {j : Nat} (h8 : j ≠ 8) (hj : j < 279 ∨ 399 ≤ j) : TL mW m s v8 kd one two j = mW j := by
  unfold TL
  rw [if_neg h8, if_neg (by omega), if_neg (by omega), if_neg (by omega), if_neg (by omega), if_neg (by omega)]
/-- what tells() leaves as it was -/
theorem tells_out {mW : Nat → Int32} (h : ∃ n, mW 8 = nI n ∧ n ≤ 30) (kd one two : Int32) {j : Nat} (h8 : j ≠ 8) (hj : j < 279 ∨ 399 ≤ j) : f_X12_tells mW kd one two j = mW j := by
  obtain ⟨n, h1, h2⟩ := h
  obtain ⟨m, s, e, hm, -⟩ := tells_TL h1 h2 kd one two
  rw [e, TL_out hm h8 hj]
theorem RLg.n {A : Nat} {logF : Nat → Int32} {logN : Int32} {mW : Nat → Int32} (h : RLg A logF logN mW) : ∃ n, mW 8 = nI n ∧ n ≤ 30 := by
  obtain ⟨a, -, -, h1, -⟩ := h
  exact ⟨_, h1, Nat.min_le_right _ _⟩
theorem RLg.cong {A A' : Nat} {logF : Nat → Int32} {logN : Int32} {mW mW' : Nat → Int32} (h : RLg A logF logN mW) (hA : A ≤ A') (h8 : mW' 8 = mW 8) (hj : ∀ j, 279 ≤ j → j < 399 → mW' j = mW j) : RLg A' logF logN mW' := by
  obtain ⟨a, e1, e2, e3, e4⟩ := h
  refine ⟨a, e1, by omega, h8.trans e3, fun i c hi hc => ?_⟩
  have := Nat.min_le_right a 30
  rw [hj _ (by omega) (by omega)]
  exact e4 i c hi hc
/-- the class's row and the reference's -/
theorem RLg.add {A : Nat} {logF : Nat → Int32} {logN : Int32} {mW : Nat → Int32} {day : Int32} (h : RLg A logF logN mW) (hA : A < 100000) (h0 : mW 0 = day) (kd one two : Int32) (od : lgOk day) (ok : lgOk kd) (o1 : lgOk one) (o2 : lgOk two) :
    RLg (A + 1) (f_X5_add 30 logF logN day kd one two).2 (f_X5_add 30 logF logN day kd one two).1 (f_X12_tells mW kd one two) := by
  obtain ⟨a, e1, e2, e3, e4⟩ := h
  have hmin := Nat.min_le_right a 30
  obtain ⟨m, s, e, hm, hms, hs, hs1⟩ := tells_TL e3 hmin kd one two
  have hpl : f_X5_placeOf 30 logN = nI (4 * (a % 30)) := by
    unfold f_X5_placeOf
    rw [if_pos (by decide), e1, floorMod_nI (by omega) (by decide) (by decide), show (4 : Int32) = nI 4 from rfl, pk_mul, Nat.mul_comm]
  have hr : a % 30 < 30 := Nat.mod_lt _ (by decide)
  have hadd : f_X5_add 30 logF logN day kd one two = (nI (a + 1), upd (upd (upd (upd logF (4 * (a % 30)) day) (4 * (a % 30) + 1) kd) (4 * (a % 30) + 2) one) (4 * (a % 30) + 3) two) := by
    unfold f_X5_add
    rw [hpl, e1, nI_1, show (2 : Int32) = nI 2 from rfl, show (3 : Int32) = nI 3 from rfl, nI_1, nI_add, nI_add, setCell_nI (by decide) (by omega), setCell_nI (by decide) (by omega), setCell_nI (by decide) (by omega), setCell_nI (by decide) (by omega)]
  rw [hadd, e]
  have hma : m + 1 = min (a + 1) 30 := by omega
  refine ⟨a + 1, rfl, by omega, ?_, fun i c hi hc => ?_⟩
  · show TL mW m s (nI (m + 1)) kd one two 8 = _
    unfold TL
    rw [if_pos rfl, hma]
  · rw [← hma] at hi ⊢
    show TL mW m s (nI (m + 1)) kd one two (279 + 4 * i + c) = upd (upd (upd (upd logF (4 * (a % 30)) day) (4 * (a % 30) + 1) kd) (4 * (a % 30) + 2) one) (4 * (a % 30) + 3) two _ ∧ lgOk (TL mW m s (nI (m + 1)) kd one two (279 + 4 * i + c))
    unfold TL
    rw [if_neg (by omega)]
    by_cases q : i = m
    · subst q
      rw [show a + 1 - (i + 1) + i = a by omega]
      match c, hc with
      | 0, _ => rw [if_neg (by omega), if_neg (by omega), if_neg (by omega), if_pos (by omega), upd_ne (by omega), upd_ne (by omega), upd_ne (by omega), Nat.add_zero, upd_eq, h0]; exact ⟨rfl, od⟩
      | 1, _ => rw [if_neg (by omega), if_neg (by omega), if_pos (by omega), upd_ne (by omega), upd_ne (by omega), upd_eq]; exact ⟨rfl, ok⟩
      | 2, _ => rw [if_neg (by omega), if_pos (by omega), upd_ne (by omega), upd_eq]; exact ⟨rfl, o1⟩
      | 3, _ => rw [if_pos (by omega), upd_eq]; exact ⟨rfl, o2⟩
    · have hne : (a + 1 - (m + 1) + i) % 30 ≠ a % 30 := by omega
      have hlt : (a + 1 - (m + 1) + i) % 30 < 30 := Nat.mod_lt _ (by decide)
      rw [if_neg (by omega), if_neg (by omega), if_neg (by omega), if_neg (by omega), if_pos (by omega), upd_ne (by omega), upd_ne (by omega), upd_ne (by omega), upd_ne (by omega), show 279 + 4 * i + c + 4 * s = 279 + 4 * (i + s) + c by omega, show a + 1 - (m + 1) + i = a - min a 30 + (i + s) by omega]
      exact e4 (i + s) c (by omega) hc
