theorem tells_loop {mW : Nat → Int32} : ∀ n, n ≤ 116 → ∀ j, j < 279 → L_X12_tells_15 mW n j = mW j :=
  iter_inv (fun _ (s : Nat → Int32) => ∀ j, j < 279 → s j = mW j) (fun j _ => rfl) (fun n s hn h j hj => by
    refine (upd_ne ?_).trans (h j hj)
    have h1 := (tl_ix hn).2.1
    omega)
theorem tells_w {f : Nat → Int32} {c a0 a1 a2 a3 : Int32} (h : vp_in c 30) {j : Nat} (hj : j < 279) : upd (upd (upd (upd f (279 + 4 * c).toNatClampNeg a0) (279 + 4 * c + 1).toNatClampNeg a1) (279 + 4 * c + 2).toNatClampNeg a2) (279 + 4 * c + 3).toNatClampNeg a3 j = f j := by
  have h0 := (tl_at0 h).2
  have h1 := (tl_at h (x := 1) (vin_d (by decide))).2
  have h2 := (tl_at h (x := 2) (vin_d (by decide))).2
  have h3 := (tl_at h (x := 3) (vin_d (by decide))).2
  refine (upd_ne ?_).trans ((upd_ne ?_).trans ((upd_ne ?_).trans (upd_ne ?_)))
  · rw [h3]; omega
  · rw [h2]; omega
  · rw [h1]; omega
  · rw [h0]; omega
theorem tells_c {f G : Nat → Int32} (h : vp_in (f 8) 30) (hG : ∀ j, j < 279 → G j = f j) : (∀ j, j < 279 → j ≠ 8 → upd G 8 (G 8 + 1) j = f j) ∧ vp_in (upd G 8 (G 8 + 1) 8) 31 := by
  refine ⟨fun j hj h8 => (upd_ne h8).trans (hG j hj), ?_⟩
  have e : upd G 8 (G 8 + 1) 8 = f 8 + 1 := by
    unfold upd
    rw [if_pos rfl, hG 8 (by decide)]
  rw [e]
  obtain ⟨e1, h1⟩ := vin_nI h
  rw [e1, show (1 : Int32) = nI 1 from rfl, nI_add]
  exact vp_in_nI (by omega) (by decide)
theorem tells_9p {mW : Nat → Int32} {kd one two : Int32} (h0 : vp_in (mW 8) 31) : (∀ j, j < 279 → j ≠ 8 → f_X12_tells mW kd one two j = mW j) ∧ vp_in (f_X12_tells mW kd one two 8) 31 := by
  by_cases c : mW 8 = 30
  · have hL := tells_loop (mW := mW) 116 (Nat.le_refl _)
    have e8 : (upd (L_X12_tells_15 mW 116) 8 (L_X12_tells_15 mW 116 8 - 1)) 8 = 29 := by
      unfold upd
      rw [if_pos rfl, hL 8 (by decide), c]
      rfl
    have hh : vp_in ((upd (L_X12_tells_15 mW 116) 8 (L_X12_tells_15 mW 116 8 - 1)) 8) 30 := by
      rw [e8]
      exact vin_d (by decide)
    unfold f_X12_tells
    rw [if_pos c]
    have r := tells_c hh (fun j hj => tells_w (a0 := (upd (L_X12_tells_15 mW 116) 8 (L_X12_tells_15 mW 116 8 - 1)) 0) (a1 := kd) (a2 := one) (a3 := two) hh hj)
    exact ⟨fun j hj h8 => (r.1 j hj h8).trans ((upd_ne h8).trans (hL j hj)), r.2⟩
  · have hh : vp_in (mW 8) 30 := by
      obtain ⟨e, h1⟩ := vin_nI h0
      rw [e] at c ⊢
      refine vp_in_nI ?_ (by decide)
      have : (mW 8).toNatClampNeg ≠ 30 := fun q => c (by rw [q]; rfl)
      omega
    unfold f_X12_tells
    rw [if_neg c]
    exact tells_c hh (fun j hj => tells_w (a0 := mW 0) (a1 := kd) (a2 := one) (a3 := two) hh hj)
theorem and_pred {v n : Nat} (h : v % 2 ^ n = 0) : (v &&& (v - 1)) % 2 ^ (n + 1) = 0 := by
  apply Nat.eq_of_testBit_eq
  intro i
  rw [Nat.testBit_mod_two_pow, Nat.testBit_and, Nat.zero_testBit]
  by_cases hi : i < n
  · have h1 : v.testBit i = false := by
      have q := congrArg (fun z => z.testBit i) h
      simpa [Nat.testBit_mod_two_pow, hi] using q
    simp [h1]
  · by_cases e : i = n
    · subst e
      obtain ⟨m, hm⟩ := Nat.dvd_of_mod_eq_zero h
      have hp : 0 < 2 ^ i := Nat.two_pow_pos i
      by_cases z : m = 0
      · subst z
        simp [hm]
      · have e1 : v / 2 ^ i = m := by rw [hm]; exact Nat.mul_div_cancel_left _ hp
        have e2 : (v - 1) / 2 ^ i = m - 1 := by
          obtain ⟨r, rfl⟩ : ∃ r, m = r + 1 := ⟨m - 1, by omega⟩
          have : v - 1 = (2 ^ i - 1) + 2 ^ i * r := by rw [hm, Nat.mul_add]; omega
          rw [this, Nat.add_mul_div_left _ _ hp, Nat.div_eq_of_lt (by omega)]
          omega
        rw [Nat.testBit_eq_decide_div_mod_eq, Nat.testBit_eq_decide_div_mod_eq, e1, e2]
        by_cases o : m % 2 = 1
        · have : ¬ (m - 1) % 2 = 1 := by omega
          simp [this]
        · simp [o]
    · have : ¬ i < n + 1 := by omega
      simp [this]
theorem and_pred32 (v : Int32) : (v &&& (v - 1)).toBitVec.toNat = v.toBitVec.toNat &&& (v.toBitVec.toNat - 1) := by
  rw [Int32.toBitVec_and, BitVec.toNat_and, Int32.toBitVec_sub, BitVec.toNat_sub]
  have h1 : (1 : Int32).toBitVec.toNat = 1 := rfl
  rw [h1]
  have hl := v.toBitVec.isLt
  by_cases z : v.toBitVec.toNat = 0
  · rw [z, Nat.zero_and, Nat.zero_and]
  · congr 1
    omega
theorem ones_low (x : Int32) : ∀ n, n ≤ 32 → (L_X12_ones_4 x n).1.toBitVec.toNat % 2 ^ n = 0 :=
  iter_inv (fun n (s : Int32 × Int32) => s.1.toBitVec.toNat % 2 ^ n = 0) (Nat.mod_one _) (fun n s hn h => by
    show (s.1 &&& (s.1 - 1)).toBitVec.toNat % 2 ^ (n + 1) = 0
    rw [and_pred32]
    exact and_pred h)
theorem ones_exp (x : Int32) : ∃ n, n ≤ 32 ∧ (L_X12_ones_4 x n).1 = 0 := by
  refine ⟨32, Nat.le_refl _, ?_⟩
  have h := ones_low x 32 (Nat.le_refl _)
  have hl := (L_X12_ones_4 x 32).1.toBitVec.isLt
  rw [Nat.mod_eq_of_lt hl] at h
  exact Int32.toBitVec_inj.mp (BitVec.eq_of_toNat_eq h)
