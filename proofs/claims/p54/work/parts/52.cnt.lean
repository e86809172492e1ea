/-! loops that count, that gather a set, that write a row -/
theorem iter_cnt {f : Nat → Int32 → Int32} {p : Nat → Bool} {N : Nat} (h : ∀ n s, n < N → f n s = bif p n then s + 1 else s) : ∀ n, n ≤ N → iter_ f 0 n = nI (cntB p n)
  | 0, _ => iter_z _ _
  | n + 1, hn => by
    rw [iter_s, iter_cnt h n (by omega), h n _ (by omega), cntB]
    cases p n
    · rfl
    · exact (nI_succ _).symm
/-- the set of the i below n with p i, as bits -/
def mskB (p : Nat → Bool) : Nat → Nat
  | 0 => 0
  | n + 1 => mskB p n + (bif p n then 2 ^ n else 0)
theorem mskB_lt (p : Nat → Bool) : ∀ n, mskB p n < 2 ^ n
  | 0 => Nat.zero_lt_one
  | n + 1 => by
    have := mskB_lt p n
    rw [mskB, Nat.pow_succ]
    cases p n <;> simp <;> omega
theorem mskB_bit (p : Nat → Bool) : ∀ n i, (mskB p n).testBit i = (decide (i < n) && p i)
  | 0, i => by simp [mskB]
  | n + 1, i => by
    have hl := mskB_lt p n
    have ih := mskB_bit p n i
    rw [mskB]
    cases hp : p n
    · show (mskB p n).testBit i = _
      rw [ih]
      by_cases h : i = n
      · subst h
        simp [hp]
      · have : (i < n + 1) = (i < n) := propext ⟨fun _ => by omega, fun _ => by omega⟩
        simp only [this]
    · show (mskB p n + 2 ^ n).testBit i = _
      rw [Nat.add_comm, show 2 ^ n + mskB p n = 2 ^ n * 1 + mskB p n by omega, Nat.testBit_two_pow_mul_add _ hl]
      by_cases h : i < n
      · rw [if_pos h, ih]
        simp [h, Nat.lt_succ_of_lt h]
      · rw [if_neg h]
        by_cases e : i = n
        · subst e
          simp [hp]
        · have h1 : ¬ i < n + 1 := by omega
          have h2 : (1 : Nat).testBit (i - n) = false := by
            have : i - n ≠ 0 := by omega
            cases q : i - n with
            | zero => exact absurd q this
            | succ k => rw [Nat.testBit_succ]; simp
          simp [h1, h2]
theorem or_nI (a b : Nat) : nI a ||| nI b = nI (a ||| b) := by
  apply Int32.toBitVec_inj.mp
  rw [Int32.toBitVec_or]
  apply BitVec.eq_of_toNat_eq
  rw [BitVec.toNat_or]
  show a % 2 ^ 32 ||| b % 2 ^ 32 = (a ||| b) % 2 ^ 32
  rw [Nat.or_mod_two_pow]
theorem one_shl : ∀ n, n < 31 → (1 : Int32) <<< (nI n &&& 31) = nI (2 ^ n) := by decide +kernel
theorem mskB_or (p : Nat → Bool) (n : Nat) : mskB p n ||| 2 ^ n = mskB p n + 2 ^ n := by
  have h := Nat.two_pow_add_eq_or_of_lt (mskB_lt p n) 1
  rw [Nat.mul_one] at h
  rw [Nat.or_comm, ← h, Nat.add_comm]
theorem iter_msk {f : Nat → Int32 → Int32} {p : Nat → Bool} {N : Nat} (hN : N ≤ 24) (h : ∀ n s, n < N → f n s = bif p n then s ||| (1 <<< (nI n &&& 31)) else s) : ∀ n, n ≤ N → iter_ f 0 n = nI (mskB p n)
  | 0, _ => iter_z _ _
  | n + 1, hn => by
    rw [iter_s, iter_msk hN h n (by omega), h n _ (by omega), mskB]
    cases p n
    · rfl
    · show nI (mskB p n) ||| (1 <<< (nI n &&& 31)) = _
      rw [one_shl n (by omega), or_nI, mskB_or]
      rfl
theorem cntB_msk (p : Nat → Bool) (n : Nat) : cntB (mskB p n).testBit n = cntB p n := cntB_cong (fun i hi => by rw [mskB_bit]; simp [hi])
theorem cntB_ext (p : Nat → Bool) {n : Nat} : ∀ {m : Nat}, n ≤ m → (∀ i, n ≤ i → i < m → p i = false) → cntB p m = cntB p n
  | 0, h, _ => by
    have : n = 0 := by omega
    subst this
    rfl
  | m + 1, h, hf => by
    by_cases e : n = m + 1
    · subst e
      rfl
    · rw [cntB, cntB_ext p (show n ≤ m by omega) (fun i h1 h2 => hf i h1 (by omega)), hf m (by omega) (by omega)]
      rfl
theorem cntB_mskN (p : Nat → Bool) {n : Nat} (hn : n ≤ 24) : cntB (mskB p n).testBit 24 = cntB p n := by
  rw [cntB_ext _ hn (fun i h1 _ => by rw [mskB_bit]; simp; omega), cntB_msk]
theorem mskB_lt24 (p : Nat → Bool) {n : Nat} (hn : n ≤ 24) : mskB p n < 2 ^ 24 := Nat.lt_of_lt_of_le (mskB_lt p n) (Nat.pow_le_pow_right (by decide) hn)
theorem mskB_cong {p q : Nat → Bool} : ∀ {n : Nat}, (∀ i, i < n → p i = q i) → mskB p n = mskB q n
  | 0, _ => rfl
  | n + 1, h => by rw [mskB, mskB, mskB_cong (fun i hi => h i (by omega)), h n (by omega)]
theorem mskB_ext (p : Nat → Bool) {n : Nat} : ∀ {m : Nat}, n ≤ m → (∀ i, n ≤ i → i < m → p i = false) → mskB p m = mskB p n
  | 0, h, _ => by
    have : n = 0 := by omega
    subst this
    rfl
  | m + 1, h, hf => by
    by_cases e : n = m + 1
    · subst e
      rfl
    · rw [mskB, mskB_ext p (show n ≤ m by omega) (fun i h1 h2 => hf i h1 (by omega)), hf m (by omega) (by omega)]
      rfl
/-- counts of a gathered set, on both sides -/
theorem bitc_msk (p : Nat → Bool) {n : Nat} (hn : n ≤ 24) : f_J6_bitCount_0f7a4 (nI (mskB p n)) = nI (cntB p n) := by rw [bitc_eq (mskB_lt24 p hn), cntB_mskN p hn]
theorem ones_msk (p : Nat → Bool) {n : Nat} (hn : n ≤ 24) : f_X12_ones (nI (mskB p n)) = nI (cntB p n) := by rw [ones_eq (mskB_lt24 p hn), cntB_mskN p hn]
/-- a loop that writes a row's places one by one -/
theorem iter_row {f : Nat → (Nat → Int32) → (Nat → Int32)} {g : Nat → Int32 → Int32} {N : Nat} (h : ∀ n s, n < N → f n s = upd s n (g n (s n))) (r : Nat → Int32) : ∀ n, n ≤ N → iter_ f r n = fun j => if j < n then g j (r j) else r j
  | 0, _ => by
    rw [iter_z]
    funext j
    rw [if_neg (by omega)]
  | n + 1, hn => by
    rw [iter_s, iter_row h r n (by omega), h n _ (by omega)]
    funext j
    unfold upd
    by_cases e : j = n
    · subst e
      rw [if_pos rfl, if_neg (by omega), if_pos (by omega)]
    · rw [if_neg e]
      show (if j < n then g j (r j) else r j) = _
      by_cases q : j < n
      · rw [if_pos q, if_pos (by omega)]
      · rw [if_neg q, if_neg (by omega)]
/-- the class's guarded cells -/
theorem cell_nI {n i : Nat} {f : Nat → Int32} {d : Int32} (hn : n < 2 ^ 31) (hi : i < n) : f_X11_cell n f (nI i) d = f i := by
  unfold f_X11_cell
  rw [if_neg (nI_pos (by omega)), if_neg (nI_ge hi hn), nI_clamp (by omega)]
theorem setCell_nI {n i : Nat} {f : Nat → Int32} {v : Int32} (hn : n < 2 ^ 31) (hi : i < n) : f_X11_setCell n f (nI i) v = upd f i v := by
  unfold f_X11_setCell
  rw [if_neg (nI_pos (by omega)), if_neg (nI_ge hi hn), nI_clamp (by omega)]
theorem cell_out {n : Nat} {f : Nat → Int32} {i d : Int32} (hn : n < 2 ^ 31) (h : ¬ vp_in i n) : f_X11_cell n f i d = d := by
  unfold f_X11_cell
  by_cases h1 : i < 0
  · rw [if_pos h1]
  · rw [if_neg h1]
    by_cases h2 : nI n ≤ i
    · rw [if_pos h2]
    · exact absurd (vin_of hn h1 h2) h
