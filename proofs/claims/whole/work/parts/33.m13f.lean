
theorem nm_b {b : Int32} {m n j : Nat} (h : vp_in b (m + 1)) (hn : n + (j + 1) = b.toNatClampNeg) (hm : m < 1000 := by decide) : vp_in (nI n) m := ld_in h hn hm
