
theorem ld_in {b : Int32} {m n j : Nat} (h : vp_in b (m + 1)) (hn : n + (j + 1) = b.toNatClampNeg) (hm : m < 1000 := by decide) : vp_in (nI n) m := by
  have := vin_lt h
  exact vp_in_nI (by omega) (by omega)
