/-! how many bits: the class's count and the reference's agree -/
theorem an8 (q m : Nat) {r c : Nat} (hr : r < 256) (hc : c < 256) : (256 * q + r) &&& (256 * m + c) = 256 * (q &&& m) + (r &&& c) := by
  have h1 : r < 2 ^ 8 := hr
  have h2 : c < 2 ^ 8 := hc
  have h3 : r &&& c < 2 ^ 8 := Nat.and_lt_two_pow _ h2
  apply Nat.eq_of_testBit_eq
  intro i
  show (2 ^ 8 * q + r &&& 2 ^ 8 * m + c).testBit i = (2 ^ 8 * (q &&& m) + (r &&& c)).testBit i
  rw [Nat.testBit_and, Nat.testBit_two_pow_mul_add _ h1, Nat.testBit_two_pow_mul_add _ h2, Nat.testBit_two_pow_mul_add _ h3]
  by_cases h : i < 8
  · rw [if_pos h, if_pos h, if_pos h, Nat.testBit_and]
  · rw [if_neg h, if_neg h, if_neg h, Nat.testBit_and]
def pA (x m : Nat) : Nat := x - (x / 2 &&& m)
def pB (x m : Nat) : Nat := (x &&& m) + (x / 4 &&& m)
def pC (x m : Nat) : Nat := (x + x / 16) &&& m
theorem m85 : ∀ y, y < 256 → y &&& 85 = y % 128 &&& 85 := by decide +kernel
theorem m51 : ∀ y, y < 256 → y &&& 51 = y % 64 &&& 51 := by decide +kernel
theorem m15 : ∀ y, y < 256 → y &&& 15 = y % 16 := by decide +kernel
theorem pA_s (q m : Nat) {r : Nat} (hr : r < 256) : pA (256 * q + r) (256 * m + 85) = 256 * pA q m + pA r 85 := by
  unfold pA
  have e : (256 * q + r) / 2 = 256 * (q / 2) + (128 * (q % 2) + r / 2) := by omega
  rw [e, an8 _ _ (by omega) (by decide), m85 _ (by omega), show (128 * (q % 2) + r / 2) % 128 = r / 2 by omega]
  have h1 : q / 2 &&& m ≤ q / 2 := Nat.and_le_left
  have h2 : r / 2 &&& 85 ≤ r / 2 := Nat.and_le_left
  omega
theorem pB_s (q m : Nat) {r : Nat} (hr : r < 256) : pB (256 * q + r) (256 * m + 51) = 256 * pB q m + pB r 51 := by
  unfold pB
  have e : (256 * q + r) / 4 = 256 * (q / 4) + (64 * (q % 4) + r / 4) := by omega
  rw [e, an8 _ _ hr (by decide), an8 _ _ (by omega) (by decide), m51 (64 * (q % 4) + r / 4) (by omega), show (64 * (q % 4) + r / 4) % 64 = r / 4 by omega]
  omega
theorem pC_s (q m : Nat) {r : Nat} (hr : r ≤ 68) (hq : q % 16 ≤ 4) : pC (256 * q + r) (256 * m + 15) = 256 * pC q m + pC r 15 := by
  unfold pC
  have e : 256 * q + r + (256 * q + r) / 16 = 256 * (q + q / 16) + (16 * (q % 16) + r + r / 16) := by omega
  rw [e, an8 _ _ (by omega) (by decide), m15 _ (by omega), m15 (r + r / 16) (by omega), show (16 * (q % 16) + r + r / 16) % 16 = (r + r / 16) % 16 by omega]
/-- the ones among the first n bits -/
def cntB (p : Nat → Bool) : Nat → Nat
  | 0 => 0
  | n + 1 => cntB p n + (bif p n then 1 else 0)
theorem pByte : ∀ r, r < 256 → pA r 85 < 256 ∧ pB (pA r 85) 51 ≤ 68 ∧ pB (pA r 85) 51 % 16 ≤ 4 ∧ pC (pB (pA r 85) 51) 15 = cntB r.testBit 8 ∧ cntB r.testBit 8 ≤ 8 := by decide +kernel
theorem pTop : ∀ r, r < 256 → pA r 21845 = pA r 85 ∧ pB (pA r 85) 13107 = pB (pA r 85) 51 ∧ pC (pB (pA r 85) 51) 3855 = pC (pB (pA r 85) 51) 15 := by decide +kernel
def bc (x : Nat) : Nat :=
  let s3 := pC (pB (pA x 1431655765) 858993459) 252645135
  let s4 := s3 + s3 / 256
  (s4 + s4 / 65536) &&& 63
theorem cntB_add (p : Nat → Bool) (m : Nat) : ∀ n, cntB p (m + n) = cntB p m + cntB (fun i => p (m + i)) n
  | 0 => rfl
  | n + 1 => by
    show cntB p (m + n) + _ = _
    rw [cntB_add p m n, Nat.add_assoc]
    rfl
theorem cntB_cong {p q : Nat → Bool} : ∀ {n : Nat}, (∀ i, i < n → p i = q i) → cntB p n = cntB q n
  | 0, _ => rfl
  | n + 1, h => by
    rw [cntB, cntB, cntB_cong (fun i hi => h i (by omega)), h n (by omega)]
theorem cntB_le (p : Nat → Bool) : ∀ n, cntB p n ≤ n
  | 0 => Nat.le_refl _
  | n + 1 => by
    have := cntB_le p n
    rw [cntB]
    cases p n <;> simp <;> omega
theorem fin64 {a b c : Nat} (ha : a ≤ 8) (hb : b ≤ 8) (hc : c ≤ 8) : (256 * (256 * c + b) + a + (256 * (256 * c + b) + a) / 256 + (256 * (256 * c + b) + a + (256 * (256 * c + b) + a) / 256) / 65536) % 64 = a + b + c := by
  have h1 : (256 * (256 * c + b) + a) / 256 = 256 * c + b := by omega
  rw [h1]
  have h2 : (256 * (256 * c + b) + a + (256 * c + b)) / 65536 = c := by omega
  rw [h2]
  omega
theorem bc_eq {x : Nat} (hx : x < 2 ^ 24) : bc x = cntB x.testBit 24 := by
  obtain ⟨r0, q1, h0, rfl⟩ : ∃ r q, r < 256 ∧ x = 256 * q + r := ⟨x % 256, x / 256, by omega, by omega⟩
  obtain ⟨r1, r2, h1, rfl⟩ : ∃ r q, r < 256 ∧ q1 = 256 * q + r := ⟨q1 % 256, q1 / 256, by omega, by omega⟩
  have h2 : r2 < 256 := by omega
  obtain ⟨a0, b0, c0, d0, e0⟩ := pByte r0 h0
  obtain ⟨a1, b1, c1, d1, e1⟩ := pByte r1 h1
  obtain ⟨a2, b2, c2, d2, e2⟩ := pByte r2 h2
  obtain ⟨t1, t2, t3⟩ := pTop r2 h2
  have s1 : pA (256 * (256 * r2 + r1) + r0) 1431655765 = 256 * (256 * pA r2 85 + pA r1 85) + pA r0 85 := by
    rw [show 1431655765 = 256 * 5592405 + 85 from rfl, pA_s _ _ h0, show 5592405 = 256 * 21845 + 85 from rfl, pA_s _ _ h1, t1]
  have s2 : pB (256 * (256 * pA r2 85 + pA r1 85) + pA r0 85) 858993459 = 256 * (256 * pB (pA r2 85) 51 + pB (pA r1 85) 51) + pB (pA r0 85) 51 := by
    rw [show 858993459 = 256 * 3355443 + 51 from rfl, pB_s _ _ a0, show 3355443 = 256 * 13107 + 51 from rfl, pB_s _ _ a1, t2]
  have s3 : pC (256 * (256 * pB (pA r2 85) 51 + pB (pA r1 85) 51) + pB (pA r0 85) 51) 252645135 = 256 * (256 * cntB r2.testBit 8 + cntB r1.testBit 8) + cntB r0.testBit 8 := by
    rw [show 252645135 = 256 * 986895 + 15 from rfl, pC_s _ _ b0 (by omega), show 986895 = 256 * 3855 + 15 from rfl, pC_s _ _ b1 c2, t3, d0, d1, d2]
  have s4 : bc (256 * (256 * r2 + r1) + r0) = cntB r0.testBit 8 + cntB r1.testBit 8 + cntB r2.testBit 8 := by
    unfold bc
    rw [s1, s2, s3]
    dsimp only
    rw [show (63 : Nat) = 2 ^ 6 - 1 from rfl, Nat.and_two_pow_sub_one_eq_mod]
    exact fin64 e0 e1 e2
  rw [s4, show 24 = 8 + (8 + 8) from rfl, cntB_add, cntB_add]
  have k0 : cntB (256 * (256 * r2 + r1) + r0).testBit 8 = cntB r0.testBit 8 := cntB_cong (fun i hi => by
    show (2 ^ 8 * (256 * r2 + r1) + r0).testBit i = _
    rw [Nat.testBit_two_pow_mul_add _ (show r0 < 2 ^ 8 from h0), if_pos hi])
  have k1 : cntB (fun i => (256 * (256 * r2 + r1) + r0).testBit (8 + i)) 8 = cntB r1.testBit 8 := cntB_cong (fun i hi => by
    show (2 ^ 8 * (256 * r2 + r1) + r0).testBit (8 + i) = _
    rw [Nat.testBit_two_pow_mul_add _ (show r0 < 2 ^ 8 from h0), if_neg (by omega), show 8 + i - 8 = i by omega]
    show (2 ^ 8 * r2 + r1).testBit i = _
    rw [Nat.testBit_two_pow_mul_add _ (show r1 < 2 ^ 8 from h1), if_pos hi])
  have k2 : cntB (fun i => (256 * (256 * r2 + r1) + r0).testBit (8 + (8 + i))) 8 = cntB r2.testBit 8 := cntB_cong (fun i hi => by
    show (2 ^ 8 * (256 * r2 + r1) + r0).testBit (8 + (8 + i)) = _
    rw [Nat.testBit_two_pow_mul_add _ (show r0 < 2 ^ 8 from h0), if_neg (by omega), show 8 + (8 + i) - 8 = 8 + i by omega]
    show (2 ^ 8 * r2 + r1).testBit (8 + i) = _
    rw [Nat.testBit_two_pow_mul_add _ (show r1 < 2 ^ 8 from h1), if_neg (by omega), show 8 + i - 8 = i by omega])
  rw [k0, k1, k2]
  omega
