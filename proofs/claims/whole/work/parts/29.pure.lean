theorem tells_loop {mW : Nat → Int32} : ∀ n, n ≤ 116 → ∀ j, j < 279 → L_X12_tells_15 mW n j = mW j :=
  iter_inv (fun _ (s : Nat → Int32) => ∀ j, j < 279 → s j = mW j) (fun j _ => rfl) (fun n s hn h j hj => by
    refine (upd_ne ?_).trans (h j hj)
    have h1 := (tl_ix hn).2.1
    omega)
theorem tells_w {f : Nat → Int32} {c a0 a1 a2 a3 : Int32} (h : vp_in c 30) {j : Nat} (hj : j < 279) : upd (upd (upd (upd f (279 + 4 * c).toNatClampNeg a0) (279 + 4 * c + 1).toNatClampNeg a1) (279 + 4 * c + 2).toNatClampNeg a2) (279 + 4 * c + 3).toNatClampNeg a3 j = f j := by
  have h0 := (tl_at0 h).2
  have h1 := (tl_at h (x := 1) (vin_d (by decide))).2
  have h2 := (tl_at h (x := 2) (vin_d (by decide))).2
  have h3 := (tl_at h (x := 3) (vin_d (by decide))).2
  refine (upd_ne ?_).trans ((upd_ne ?_).trans ((upd_ne ?_).trans (upd_ne ?_)))
  · rw [h3]; omega
  · rw [h2]; omega
  · rw [h1]; omega
  · rw [h0]; omega
