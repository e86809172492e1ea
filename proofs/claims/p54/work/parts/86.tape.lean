/-! the tape: append, truncate -/
theorem nI_bvn (x : Int32) : (x.toInt = (x.toBitVec.toNat : Int) ∧ x.toBitVec.toNat < 2 ^ 31) ∨ (x.toInt = (x.toBitVec.toNat : Int) - 4294967296 ∧ 2 ^ 31 ≤ x.toBitVec.toNat) := by
  have h := x.toBitVec.isLt
  have e : x.toInt = x.toBitVec.toInt := rfl
  rw [e, BitVec.toInt_eq_toNat_cond]
  by_cases q : 2 * x.toBitVec.toNat < 2 ^ 32
  · rw [if_pos q]
    exact Or.inl ⟨rfl, by omega⟩
  · rw [if_neg q]
    refine Or.inr ⟨?_, by omega⟩
    omega
theorem byte_sh {y z : Int32} (h : y.toInt % 256 = z.toInt % 256) : y.toInt8 = z.toInt8 := by
  apply Int8.toInt_inj.mp
  rw [Int32.toInt_toInt8, Int32.toInt_toInt8]
  unfold Int.bmod
  have h2 : y.toInt % ((2 ^ 8 : Nat) : Int) = z.toInt % ((2 ^ 8 : Nat) : Int) := h
  rw [h2]
theorem byte_k (x s : Int32) (k : Nat) (hk : 2 ^ k * 256 ≤ 4294967296 ∧ 4294967296 % (2 ^ k * 256) = 0) (h0 : 0 < 2 ^ k) (hs : ((s.toUInt32 &&& Int32.toUInt32 31).toBitVec % 32).toNat = k) (hs2 : ((s &&& 31).toBitVec.smod 32).toNat = k) (hd : ∀ n : Nat, n < 4294967296 → ((n / 2 ^ k : Nat) : Int) % 256 = (((n : Int) - 4294967296) / ((2 ^ k : Nat) : Int)) % 256 ∧ ((n / 2 ^ k : Nat) : Int) = (n : Int) / ((2 ^ k : Nat) : Int)) : (x.toUInt32 >>> (s.toUInt32 &&& Int32.toUInt32 31)).toInt32.toInt8 = (x >>> (s &&& 31)).toInt8 := by
  refine byte_sh ?_
  have h1 := pk_ushr x s k hs
  have h2 := pk_shr x (s &&& 31) k hs2
  rw [h2, Int.shiftRight_eq_div_pow]
  have hn := x.toBitVec.isLt
  obtain ⟨d1, d2⟩ := hd x.toBitVec.toNat hn
  have hy := nI_bvn (x.toUInt32 >>> (s.toUInt32 &&& Int32.toUInt32 31)).toInt32
  rw [h1] at hy
  have hx := nI_bvn x
  generalize x.toBitVec.toNat = n at *
  have e1 : (x.toUInt32 >>> (s.toUInt32 &&& Int32.toUInt32 31)).toInt32.toInt % 256 = ((n / 2 ^ k : Nat) : Int) % 256 := by
    rcases hy with ⟨q, -⟩ | ⟨q, -⟩
    · rw [q]
    · rw [q]
      omega
  rw [e1]
  rcases hx with ⟨q, -⟩ | ⟨q, -⟩
  · rw [q, d2]
  · rw [q]
    exact d1
theorem byte_24 (x : Int32) : (x.toUInt32 >>> ((24 : Int32).toUInt32 &&& Int32.toUInt32 31)).toInt32.toInt8 = (x >>> ((24 : Int32) &&& 31)).toInt8 := byte_k x 24 24 (by decide) (by decide) (by decide) (by decide) (fun n hn => by
  simp only [Nat.reducePow]
  omega)
theorem byte_16 (x : Int32) : (x.toUInt32 >>> ((16 : Int32).toUInt32 &&& Int32.toUInt32 31)).toInt32.toInt8 = (x >>> ((16 : Int32) &&& 31)).toInt8 := byte_k x 16 16 (by decide) (by decide) (by decide) (by decide) (fun n hn => by
  simp only [Nat.reducePow]
  omega)
theorem byte_8 (x : Int32) : (x.toUInt32 >>> ((8 : Int32).toUInt32 &&& Int32.toUInt32 31)).toInt32.toInt8 = (x >>> ((8 : Int32) &&& 31)).toInt8 := byte_k x 8 8 (by decide) (by decide) (by decide) (by decide) (fun n hn => by
  simp only [Nat.reducePow]
  omega)
theorem byte_0 (x : Int32) : (x.toUInt32 >>> ((0 : Int32).toUInt32 &&& Int32.toUInt32 31)).toInt32.toInt8 = (x >>> ((0 : Int32) &&& 31)).toInt8 := byte_k x 0 0 (by decide) (by decide) (by decide) (by decide) (fun n hn => by
  simp only [Nat.reducePow]
  omega)
/-- the tapes agree, and bear bytes -/
def TA (n : Nat) (tp mTape : Nat → Int32) : Prop := ∀ j, j < n → tp j = mTape j ∧ ∃ z : Int8, mTape j = vp_nar .byte z.toInt32
theorem TA.whole {n : Nat} {tp mTape : Nat → Int32} (h : TA n tp mTape) (hn : n + 4 ≤ 800) (v : Int32) : ∃ tp' mT', f_X1_addWhole 800 tp (nI n) v = (tp', nI (n + 4)) ∧ f_X12_feeds (nI n) mTape v = (mT', nI (n + 4)) ∧ TA (n + 4) tp' mT' := by
  have add : ∀ (f : Nat → Int32) (k : Nat) (x : Int32), k < 800 → f_X1_add 800 f (nI k) x = (upd f k (vp_nar .byte x.toInt8.toInt32), nI (k + 1)) := fun f k x hk => by
    unfold f_X1_add
    rw [if_neg (nI_pos (by omega)), if_pos (nI_lt (by omega) (by omega)), nI_clamp (by omega), nI_1]
  have e1 : f_X1_addWhole 800 tp (nI n) v = (upd (upd (upd (upd tp n (vp_nar .byte (v >>> ((24 : Int32) &&& 31)).toInt8.toInt32)) (n + 1) (vp_nar .byte (v >>> ((16 : Int32) &&& 31)).toInt8.toInt32)) (n + 2) (vp_nar .byte (v >>> ((8 : Int32) &&& 31)).toInt8.toInt32)) (n + 3) (vp_nar .byte (v >>> ((0 : Int32) &&& 31)).toInt8.toInt32), nI (n + 4)) := by
    unfold f_X1_addWhole S_X1_addWhole_11c S_X1_addWhole_11b S_X1_addWhole_11a S_X1_addWhole_11
    rw [add tp n _ (by omega), byte_24]
    dsimp only
    rw [add _ (n + 1) _ (by omega), byte_16]
    dsimp only
    rw [add _ (n + 1 + 1) _ (by omega), byte_8]
    dsimp only
    rw [add _ (n + 1 + 1 + 1) _ (by omega), byte_0]
  have e2 : f_X12_feeds (nI n) mTape v = (upd (upd (upd (upd mTape n (vp_nar .byte (v >>> ((24 : Int32) &&& 31)).toInt8.toInt32)) (n + 1) (vp_nar .byte (v >>> ((16 : Int32) &&& 31)).toInt8.toInt32)) (n + 2) (vp_nar .byte (v >>> ((8 : Int32) &&& 31)).toInt8.toInt32)) (n + 3) (vp_nar .byte (v >>> ((0 : Int32) &&& 31)).toInt8.toInt32), nI (n + 4)) := by
    unfold f_X12_feeds
    rw [nI_1, nI_1, nI_1, nI_1, nI_clamp (by omega), nI_clamp (by omega), nI_clamp (by omega), nI_clamp (by omega)]
  refine ⟨_, _, e1, e2, fun j hj => ?_⟩
  unfold upd
  by_cases q3 : j = n + 3
  · rw [if_pos q3, if_pos q3]
    exact ⟨rfl, _, rfl⟩
  rw [if_neg q3, if_neg q3]
  by_cases q2 : j = n + 2
  · rw [if_pos q2, if_pos q2]
    exact ⟨rfl, _, rfl⟩
  rw [if_neg q2, if_neg q2]
  by_cases q1 : j = n + 1
  · rw [if_pos q1, if_pos q1]
    exact ⟨rfl, _, rfl⟩
  rw [if_neg q1, if_neg q1]
  by_cases q0 : j = n
  · rw [if_pos q0, if_pos q0]
    exact ⟨rfl, _, rfl⟩
  rw [if_neg q0, if_neg q0]
  exact h j (by omega)
def RTp (tp : Nat → Int32) (tl mTaped : Int32) (mTape : Nat → Int32) : Prop := ∃ n, tl = nI n ∧ mTaped = nI n ∧ n ≤ 800 ∧ TA n tp mTape
theorem st_append {tp : Nat → Int32} {tl mTaped : Int32} {mTape : Nat → Int32} (h : RTp tp tl mTaped mTape) (a b c d e : Int32) : (f_X11_append tp tl a b c d e).1 = (f_X12_append mTaped mTape a b c d e).1 ∧ RTp (f_X11_append tp tl a b c d e).2.2 (f_X11_append tp tl a b c d e).2.1 (f_X12_append mTaped mTape a b c d e).2.2 (f_X12_append mTaped mTape a b c d e).2.1 := by
  obtain ⟨n, rfl, rfl, hn, ht⟩ := h
  unfold f_X11_append f_X12_append
  have e20 : (nI n + 20 : Int32) = nI (n + 20) := nI_add n 20
  rw [e20]
  by_cases q : n + 20 ≤ 800
  · have q1 : nI (n + 20) ≤ 800 := nI_le (b := 800) q (by omega)
    simp only [if_pos q1]
    obtain ⟨t1, m1, x1, y1, h1⟩ := ht.whole (by omega) a
    obtain ⟨t2, m2, x2, y2, h2⟩ := h1.whole (by omega) b
    obtain ⟨t3, m3, x3, y3, h3⟩ := h2.whole (by omega) c
    obtain ⟨t4, m4, x4, y4, h4⟩ := h3.whole (by omega) d
    obtain ⟨t5, m5, x5, y5, h5⟩ := h4.whole (by omega) e
    have s5 : S_X11_append_57 tp (nI n) a b c d e = (t5, nI (n + 4 + 4 + 4 + 4 + 4)) := by
      unfold S_X11_append_57 S_X11_append_48 S_X11_append_39 S_X11_append_31 S_X11_append_23
      rw [x1]
      dsimp only
      rw [x2]
      dsimp only
      rw [x3]
      dsimp only
      rw [x4]
      dsimp only
      rw [x5]
    have r5 : S_X12_append_39 (nI n) mTape a b c d e = (m5, nI (n + 4 + 4 + 4 + 4 + 4)) := by
      unfold S_X12_append_39 S_X12_append_33 S_X12_append_27 S_X12_append_22 S_X12_append_17
      rw [y1]
      dsimp only
      rw [y2]
      dsimp only
      rw [y3]
      dsimp only
      rw [y4]
      dsimp only
      rw [y5]
    rw [s5, r5]
    exact ⟨rfl, n + 4 + 4 + 4 + 4 + 4, rfl, rfl, by omega, h5⟩
  · have q1 : ¬ nI (n + 20) ≤ 800 := nI_ge (a := 800) (by omega) (by omega)
    simp only [if_neg q1]
    exact ⟨trivial, n, rfl, rfl, hn, ht⟩
theorem st_truncate {tp : Nat → Int32} {tl mTaped : Int32} {mTape : Nat → Int32} (h : RTp tp tl mTaped mTape) (x : Int32) : (f_X11_truncate tl x).1 = (f_X12_truncate mTaped x).1 ∧ RTp tp (f_X11_truncate tl x).2 (f_X12_truncate mTaped x).2 mTape := by
  obtain ⟨n, rfl, rfl, hn, ht⟩ := h
  unfold f_X11_truncate f_X12_truncate S_X11_truncate_30
  have hin : f_X12_in x.toInt64 0 (nI n).toInt64 = true ↔ (0 ≤ x.toInt ∧ x.toInt ≤ n) := by
    rw [in_iff, Int64.le_iff_toInt_le, Int64.le_iff_toInt_le, Int32.toInt_toInt64, Int32.toInt_toInt64, nI_toInt (by omega)]
    rfl
  by_cases q : x < 0
  · have hf : f_X12_in x.toInt64 0 (nI n).toInt64 = false := by
      cases w : f_X12_in x.toInt64 0 (nI n).toInt64
      · rfl
      · have h1 := hin.mp w
        have h2 := Int32.lt_iff_toInt_lt.mp q
        have h3 : (0 : Int32).toInt = 0 := rfl
        omega
    rw [hf]
    simp only [if_pos q, cond_false]
    exact ⟨trivial, n, rfl, rfl, hn, ht⟩
  · obtain ⟨k, hk, rfl⟩ := nI_of q
    simp only [if_neg q]
    by_cases q2 : k ≤ n
    · have q3 : nI k ≤ nI n := nI_le q2 (by omega)
      rw [hin.mpr (by rw [nI_toInt hk]; omega)]
      simp only [if_pos q3, cond_true]
      have e1 : f_X1_cutTo (nI n) (nI n - nI k) = nI (n - k) := by
        unfold f_X1_cutTo
        rw [pk_sub q2, if_neg (nI_pos (by omega)), if_neg (nI_nlt (by omega) (by omega))]
      rw [e1, pk_sub q2]
      exact ⟨rfl, n - k, rfl, rfl, by omega, fun j hj => ht j (by omega)⟩
    · have q3 : ¬ nI k ≤ nI n := nI_ge (by omega) hk
      have hf : f_X12_in (nI k).toInt64 0 (nI n).toInt64 = false := by
        cases w : f_X12_in (nI k).toInt64 0 (nI n).toInt64
        · rfl
        · have h1 := hin.mp w
          rw [nI_toInt hk] at h1
          omega
      rw [hf]
      simp only [if_neg q3, cond_false]
      exact ⟨trivial, n, rfl, rfl, hn, ht⟩
