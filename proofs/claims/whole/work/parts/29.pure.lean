theorem tells_loop {mW : Nat → Int32} : ∀ n, n ≤ 116 → ∀ j, j < 279 → L_X12_tells_15 mW n j = mW j :=
  iter_inv (fun _ (s : Nat → Int32) => ∀ j, j < 279 → s j = mW j) (fun j _ => rfl) (fun n s hn h j hj => by
    refine (upd_ne ?_).trans (h j hj)
    have h1 := (tl_ix hn).2.1
    omega)
theorem tells_w {f : Nat → Int32} {c a0 a1 a2 a3 : Int32} (h : vp_in c 30) {j : Nat} (hj : j < 279) : upd (upd (upd (upd f (279 + 4 * c).toNatClampNeg a0) (279 + 4 * c + 1).toNatClampNeg a1) (279 + 4 * c + 2).toNatClampNeg a2) (279 + 4 * c + 3).toNatClampNeg a3 j = f j := by
  have h0 := (tl_at0 h).2
  have h1 := (tl_at h (x := 1) (vin_d (by decide))).2
  have h2 := (tl_at h (x := 2) (vin_d (by decide))).2
  have h3 := (tl_at h (x := 3) (vin_d (by decide))).2
  refine (upd_ne ?_).trans ((upd_ne ?_).trans ((upd_ne ?_).trans (upd_ne ?_)))
  · rw [h3]; omega
  · rw [h2]; omega
  · rw [h1]; omega
  · rw [h0]; omega
theorem tells_c {f G : Nat → Int32} (h : vp_in (f 8) 30) (hG : ∀ j, j < 279 → G j = f j) : (∀ j, j < 279 → j ≠ 8 → upd G 8 (G 8 + 1) j = f j) ∧ vp_in (upd G 8 (G 8 + 1) 8) 31 := by
  refine ⟨fun j hj h8 => (upd_ne h8).trans (hG j hj), ?_⟩
  have e : upd G 8 (G 8 + 1) 8 = f 8 + 1 := by
    unfold upd
    rw [if_pos rfl, hG 8 (by decide)]
  rw [e]
  obtain ⟨e1, h1⟩ := vin_nI h
  rw [e1, show (1 : Int32) = nI 1 from rfl, nI_add]
  exact vp_in_nI (by omega) (by decide)
theorem tells_9p {mW : Nat → Int32} {kd one two : Int32} (h0 : vp_in (mW 8) 31) : (∀ j, j < 279 → j ≠ 8 → f_X12_tells mW kd one two j = mW j) ∧ vp_in (f_X12_tells mW kd one two 8) 31 := by
  by_cases c : mW 8 = 30
  · have hL := tells_loop (mW := mW) 116 (Nat.le_refl _)
    have e8 : (upd (L_X12_tells_15 mW 116) 8 (L_X12_tells_15 mW 116 8 - 1)) 8 = 29 := by
      unfold upd
      rw [if_pos rfl, hL 8 (by decide), c]
      rfl
    have hh : vp_in ((upd (L_X12_tells_15 mW 116) 8 (L_X12_tells_15 mW 116 8 - 1)) 8) 30 := by
      rw [e8]
      exact vin_d (by decide)
    unfold f_X12_tells
    rw [if_pos c]
    have r := tells_c hh (fun j hj => tells_w (a0 := (upd (L_X12_tells_15 mW 116) 8 (L_X12_tells_15 mW 116 8 - 1)) 0) (a1 := kd) (a2 := one) (a3 := two) hh hj)
    exact ⟨fun j hj h8 => (r.1 j hj h8).trans ((upd_ne h8).trans (hL j hj)), r.2⟩
  · have hh : vp_in (mW 8) 30 := by
      obtain ⟨e, h1⟩ := vin_nI h0
      rw [e] at c ⊢
      refine vp_in_nI ?_ (by decide)
      have : (mW 8).toNatClampNeg ≠ 30 := fun q => c (by rw [q]; rfl)
      omega
    unfold f_X12_tells
    rw [if_neg c]
    exact tells_c hh (fun j hj => tells_w (a0 := mW 0) (a1 := kd) (a2 := one) (a3 := two) hh hj)
