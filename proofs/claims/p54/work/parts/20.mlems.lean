/-! the reference's places in its row of numbers -/
theorem of_ix {p x : Int32} (hp : vp_in p 20) (hx : vp_in x 11) : 9 + 11 * p + x = nI (9 + 11 * p.toNatClampNeg + x.toNatClampNeg) ∧ 9 + 11 * p.toNatClampNeg + x.toNatClampNeg < 229 := by
  obtain ⟨e1, h1⟩ := vin_nI hp
  obtain ⟨e2, h2⟩ := vin_nI hx
  refine ⟨?_, by omega⟩
  conv => lhs; rw [e1, e2, show (9 : Int32) = nI 9 from rfl, show (11 : Int32) = nI 11 from rfl, pk_mul, nI_add, nI_add]
theorem of_in {p x : Int32} (hp : vp_in p 20) (hx : vp_in x 11) : vp_in (9 + 11 * p + x) 399 := by
  obtain ⟨e, h⟩ := of_ix hp hx
  rw [e]
  exact vp_in_nI (by omega) (by decide)
theorem of_nat {p x : Int32} (hp : vp_in p 20) (hx : vp_in x 11) : (9 + 11 * p + x).toNatClampNeg = 9 + 11 * p.toNatClampNeg + x.toNatClampNeg := by
  obtain ⟨e, h⟩ := of_ix hp hx
  rw [e, nI_clamp (by omega)]
theorem ofB_ix {b x : Int32} (hb : vp_in b 6) (hx : vp_in x 3) : 229 + 3 * b + x = nI (229 + 3 * b.toNatClampNeg + x.toNatClampNeg) ∧ 229 + 3 * b.toNatClampNeg + x.toNatClampNeg < 247 := by
  obtain ⟨e1, h1⟩ := vin_nI hb
  obtain ⟨e2, h2⟩ := vin_nI hx
  refine ⟨?_, by omega⟩
  conv => lhs; rw [e1, e2, show (229 : Int32) = nI 229 from rfl, show (3 : Int32) = nI 3 from rfl, pk_mul, nI_add, nI_add]
theorem ofB_in {b x : Int32} (hb : vp_in b 6) (hx : vp_in x 3) : vp_in (229 + 3 * b + x) 399 := by
  obtain ⟨e, h⟩ := ofB_ix hb hx
  rw [e]
  exact vp_in_nI (by omega) (by decide)
theorem ofB_nat {b x : Int32} (hb : vp_in b 6) (hx : vp_in x 3) : (229 + 3 * b + x).toNatClampNeg = 229 + 3 * b.toNatClampNeg + x.toNatClampNeg := by
  obtain ⟨e, h⟩ := ofB_ix hb hx
  rw [e, nI_clamp (by omega)]
theorem upd_ne {f : Nat → Int32} {i j : Nat} {v : Int32} (h : j ≠ i) : upd f i v j = f j := by
  unfold upd
  rw [if_neg h]
theorem upd_eq {f : Nat → Int32} {i : Nat} {v : Int32} : upd f i v i = v := by
  unfold upd
  rw [if_pos rfl]
theorem i64_le {a b : Int32} : a.toInt64 ≤ b.toInt64 ↔ a ≤ b := by
  rw [Int64.le_iff_toInt_le, Int32.le_iff_toInt_le, Int32.toInt_toInt64, Int32.toInt_toInt64]
theorem i64_lt {a b : Int32} : a.toInt64 < b.toInt64 ↔ a < b := by
  rw [Int64.lt_iff_toInt_lt, Int32.lt_iff_toInt_lt, Int32.toInt_toInt64, Int32.toInt_toInt64]
theorem season_in {q : Int32} (h : 0 ≤ q) : vp_in (1 + (q - q / 4 * 4)) 10 := by
  have h0 : 0 ≤ q.toInt := by have := Int32.le_iff_toInt_le.mp h; simpa using this
  obtain ⟨n, hn, rfl⟩ : ∃ n : Nat, n < 2 ^ 31 ∧ q = nI n := nI_of (fun z => by have := Int32.lt_iff_toInt_lt.mp z; have h1 : (0 : Int32).toInt = 0 := rfl; omega)
  rw [show (4 : Int32) = nI 4 from rfl, pk_rem hn (by decide) (by decide), show (1 : Int32) = nI 1 from rfl, nI_add]
  exact vp_in_nI (by omega) (by decide)
theorem div_nn {a b : Int32} (ha : 0 ≤ a) (hb : 0 < b) : 0 ≤ a / b := by
  have h1 : (0 : Int32).toInt = 0 := rfl
  obtain ⟨n, hn, rfl⟩ : ∃ n : Nat, n < 2 ^ 31 ∧ a = nI n := nI_of (fun z => by have := Int32.lt_iff_toInt_lt.mp z; have := Int32.le_iff_toInt_le.mp ha; omega)
  obtain ⟨m, hm, rfl⟩ : ∃ n : Nat, n < 2 ^ 31 ∧ b = nI n := nI_of (fun z => by have := Int32.lt_iff_toInt_lt.mp z; have := Int32.lt_iff_toInt_lt.mp hb; omega)
  have h0 : 0 < m := by have := Int32.lt_iff_toInt_lt.mp hb; rw [nI_toInt hm, h1] at this; omega
  rw [pk_div hn h0 hm]
  exact nI_pos' (Nat.lt_of_le_of_lt (Nat.div_le_self _ _) hn)
theorem pos_ne {b : Int32} (hb : 0 < b) : ¬ b = 0 := by
  intro h; rw [h] at hb; exact absurd hb (by decide)
theorem fb_sub1 {n : Nat} (h : n < 2 ^ 31) : (nI n - 1).toInt = (n : Int) - 1 := by
  cases n with
  | zero => decide
  | succ n => rw [nI_pred, nI_toInt (by omega)]; omega
theorem past_in {v x : Int32} (h : ¬ v < 0) (hx : vp_in x 4) : vp_in (247 + 4 * (v - v / 8 * 8) + x) 399 := by
  obtain ⟨n, hn, rfl⟩ := nI_of h
  obtain ⟨e2, h2⟩ := vin_nI hx
  rw [e2, show (8 : Int32) = nI 8 from rfl, pk_rem hn (by decide) (by decide), show (4 : Int32) = nI 4 from rfl, show (247 : Int32) = nI 247 from rfl, pk_mul, nI_add, nI_add]
  exact vp_in_nI (by omega) (by decide)
theorem log_in {i n x : Int32} (h : ¬ i < 0) (hn : vp_in n 31) (hi : i < n) (hx : vp_in x 4) : vp_in (279 + 4 * i + x) 399 := by
  obtain ⟨m, hm, rfl⟩ := nI_of h
  obtain ⟨e, h1⟩ := vin_nI hn
  obtain ⟨e2, h2⟩ := vin_nI hx
  rw [e] at hi
  have h3 := (nI_ltI hm (by omega)).mp hi
  rw [e2, show (4 : Int32) = nI 4 from rfl, show (279 : Int32) = nI 279 from rfl, pk_mul, nI_add, nI_add]
  exact vp_in_nI (by omega) (by decide)
theorem add_in {x : Int32} (h : vp_in x 6) : vp_in (5 + x) 11 := by
  obtain ⟨e, h1⟩ := vin_nI h
  rw [e, show (5 : Int32) = nI 5 from rfl, nI_add]
  exact vp_in_nI (by omega) (by decide)
theorem iter_inv {σ : Type} {f : Nat → σ → σ} {a : σ} (I : Nat → σ → Prop) {N : Nat} (h0 : I 0 a) (hs : ∀ n s, n < N → I n s → I (n + 1) (f n s)) : ∀ n, n ≤ N → I n (iter_ f a n)
  | 0, _ => by rw [iter_z]; exact h0
  | n + 1, h => by rw [iter_s]; exact hs n _ (by omega) (iter_inv I h0 hs n (by omega))
theorem tl_ix {n : Nat} (h : n < 116) : (279 + nI (n + 4)).toNatClampNeg = 283 + n ∧ (279 + nI (n + 4) - 4).toNatClampNeg = 279 + n ∧ vp_in (279 + nI (n + 4)) 399 ∧ vp_in (279 + nI (n + 4) - 4) 399 := by
  have e : (279 : Int32) + nI (n + 4) = nI (283 + n) := by rw [show (279 : Int32) = nI 279 from rfl, nI_add]; congr 1; omega
  have e2 : nI (283 + n) - 4 = nI (279 + n) := by rw [show (4 : Int32) = nI 4 from rfl, pk_sub (by omega)]; congr 1; omega
  rw [e, e2]
  exact ⟨nI_clamp (by omega), nI_clamp (by omega), vp_in_nI (by omega) (by decide), vp_in_nI (by omega) (by decide)⟩
theorem tl_at {c x : Int32} (h : vp_in c 30) (hx : vp_in x 4) : vp_in (279 + 4 * c + x) 399 ∧ (279 + 4 * c + x).toNatClampNeg = 279 + 4 * c.toNatClampNeg + x.toNatClampNeg := by
  obtain ⟨e, h1⟩ := vin_nI h
  obtain ⟨e2, h2⟩ := vin_nI hx
  have e3 : 279 + 4 * c + x = nI (279 + 4 * c.toNatClampNeg + x.toNatClampNeg) := by
    conv => lhs; rw [e, e2, show (4 : Int32) = nI 4 from rfl, show (279 : Int32) = nI 279 from rfl, pk_mul, nI_add, nI_add]
  rw [e3]
  exact ⟨vp_in_nI (by omega) (by decide), nI_clamp (by omega)⟩
theorem tl_at0 {c : Int32} (h : vp_in c 30) : vp_in (279 + 4 * c) 399 ∧ (279 + 4 * c).toNatClampNeg = 279 + 4 * c.toNatClampNeg := by
  have h1 := tl_at h (x := 0) (vin_d (by decide))
  rw [Int32.add_zero] at h1
  exact ⟨h1.1, by rw [h1.2]; rfl⟩
theorem past_in0 {v : Int32} (h : ¬ v < 0) : vp_in (247 + 4 * (v - v / 8 * 8)) 399 := by
  have h1 := past_in h (x := 0) (vin_d (by decide))
  rwa [Int32.add_zero] at h1
theorem past_nat {v x : Int32} (h : ¬ v < 0) (hx : vp_in x 4) : (247 + 4 * (v - v / 8 * 8) + x).toNatClampNeg = 247 + 4 * (v.toNatClampNeg % 8) + x.toNatClampNeg := by
  obtain ⟨n, hn, rfl⟩ := nI_of h
  obtain ⟨e2, h2⟩ := vin_nI hx
  rw [nI_clamp hn]
  conv => lhs; rw [e2, show (8 : Int32) = nI 8 from rfl, pk_rem hn (by decide) (by decide), show (4 : Int32) = nI 4 from rfl, show (247 : Int32) = nI 247 from rfl, pk_mul, nI_add, nI_add]
  exact nI_clamp (by omega)
theorem past_nat0 {v : Int32} (h : ¬ v < 0) : (247 + 4 * (v - v / 8 * 8)).toNatClampNeg = 247 + 4 * (v.toNatClampNeg % 8) := by
  have h1 := past_nat h (x := 0) (vin_d (by decide))
  rw [Int32.add_zero] at h1
  rw [h1]; rfl
theorem past_ne {v x : Int32} {j : Nat} (h : ¬ v < 0) (hx : vp_in x 4) (hj : j < 247) : j ≠ (247 + 4 * (v - v / 8 * 8) + x).toNatClampNeg := by
  rw [past_nat h hx]; omega
theorem past_ne0 {v : Int32} {j : Nat} (h : ¬ v < 0) (hj : j < 247) : j ≠ (247 + 4 * (v - v / 8 * 8)).toNatClampNeg := by
  rw [past_nat0 h]; omega
theorem kp_in {u : Int32} {n m N : Nat} (h : vp_in u m) (hn : n < 399) (hm : 399 * m = N ∧ N ≤ 3192) : vp_in (399 * u + nI n) N := by
  obtain ⟨e, h1⟩ := vin_nI h
  obtain ⟨hm, h2⟩ := hm
  rw [e, show (399 : Int32) = nI 399 from rfl, pk_mul, nI_add]
  exact vp_in_nI (by have := Nat.mul_le_mul_left 399 (show u.toNatClampNeg + 1 ≤ m by omega); omega) (by omega)
theorem kp_a {u : Int32} (h : u = 8) : vp_in (u - 1) 8 := by rw [h]; exact vin_d (by decide)
theorem kp_b {u : Int32} (h0 : vp_in u 9) (h : ¬ u = 8) : vp_in u 8 := by
  obtain ⟨e, h1⟩ := vin_nI h0
  rw [e] at h ⊢
  refine vp_in_nI ?_ (by decide)
  have : u.toNatClampNeg ≠ 8 := fun q => h (by rw [q]; rfl)
  omega
theorem kp_c {u : Int32} (h0 : vp_in u 9) (h : ¬ u = 0) : vp_in (u - 1) 8 := by
  obtain ⟨e, h1⟩ := vin_nI h0
  rw [e] at h ⊢
  have : u.toNatClampNeg ≠ 0 := fun q => h (by rw [q]; rfl)
  rw [show (1 : Int32) = nI 1 from rfl, pk_sub (by omega)]
  exact vp_in_nI (by omega) (by decide)
theorem kp_s {n : Nat} (h : n < 2793) : vp_in (nI (n + 399) - 399) 3192 ∧ (nI (n + 399) - 399).toNatClampNeg = n := by
  have e : nI (n + 399) - nI 399 = nI n := by rw [pk_sub (Nat.le_add_left _ _), Nat.add_sub_cancel]
  have e' : nI (n + 399) - 399 = nI n := e
  rw [e']
  exact ⟨vp_in_nI (by omega) (by decide), nI_clamp (by omega)⟩
