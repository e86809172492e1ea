theorem and_nI (a b : Nat) : nI a &&& nI b = nI (a &&& b) := by
  apply Int32.toBitVec_inj.mp
  rw [Int32.toBitVec_and]
  apply BitVec.eq_of_toNat_eq
  rw [BitVec.toNat_and]
  show a % 2 ^ 32 &&& b % 2 ^ 32 = (a &&& b) % 2 ^ 32
  rw [Nat.and_mod_two_pow]
theorem sub_nI {a b : Nat} (h : b ≤ a) : nI a - nI b = nI (a - b) := by
  have e : nI a = nI (a - b) + nI b := by rw [nI_add, Nat.sub_add_cancel h]
  rw [e, Int32.add_sub_cancel]
theorem bitc_eq {x : Nat} (hx : x < 2 ^ 24) : f_J6_bitCount_0f7a4 (nI x) = nI (cntB x.testBit 24) := by
  have b1 : pA x 1431655765 ≤ x := Nat.sub_le _ _
  have b2 : pB (pA x 1431655765) 858993459 ≤ pA x 1431655765 + pA x 1431655765 / 4 := Nat.add_le_add Nat.and_le_left Nat.and_le_left
  have b3 : pC (pB (pA x 1431655765) 858993459) 252645135 ≤ pB (pA x 1431655765) 858993459 + pB (pA x 1431655765) 858993459 / 16 := Nat.and_le_left
  have h1 : nI x - (((nI x).toUInt32 >>> ((1 : Int32).toUInt32 &&& Int32.toUInt32 31)).toInt32 &&& 1431655765) = nI (pA x 1431655765) := by
    rw [pk_ushrN (by omega) 1 1 (by decide), show (1431655765 : Int32) = nI 1431655765 from rfl, and_nI, sub_nI]
    · rfl
    · exact Nat.le_trans Nat.and_le_left (Nat.div_le_self _ _)
  have h2 : (nI (pA x 1431655765) &&& 858993459) + (((nI (pA x 1431655765)).toUInt32 >>> ((2 : Int32).toUInt32 &&& Int32.toUInt32 31)).toInt32 &&& 858993459) = nI (pB (pA x 1431655765) 858993459) := by
    rw [pk_ushrN (by omega) 2 2 (by decide), show (858993459 : Int32) = nI 858993459 from rfl, and_nI, and_nI, nI_add]
    rfl
  have h3 : (nI (pB (pA x 1431655765) 858993459) + ((nI (pB (pA x 1431655765) 858993459)).toUInt32 >>> ((4 : Int32).toUInt32 &&& Int32.toUInt32 31)).toInt32) &&& 252645135 = nI (pC (pB (pA x 1431655765) 858993459) 252645135) := by
    rw [pk_ushrN (by omega) 4 4 (by decide), nI_add, show (252645135 : Int32) = nI 252645135 from rfl, and_nI]
    rfl
  unfold f_J6_bitCount_0f7a4
  rw [h1, h2, h3, ← bc_eq hx]
  unfold bc
  generalize pC (pB (pA x 1431655765) 858993459) 252645135 = z at b3 ⊢
  rw [pk_ushrN (by omega) 8 8 (by decide), nI_add, pk_ushrN (by omega) 16 16 (by decide), nI_add, show (63 : Int32) = nI 63 from rfl, and_nI]
theorem cntB_2 (q r N : Nat) (hr : r < 2) : cntB (2 * q + r).testBit (N + 1) = r + cntB q.testBit N := by
  rw [Nat.add_comm N 1, cntB_add]
  have h1 : cntB (2 * q + r).testBit 1 = r := by
    show 0 + (bif (2 * q + r).testBit 0 then 1 else 0) = r
    rw [Nat.testBit_zero]
    have : (2 * q + r) % 2 = r := by omega
    rw [this]
    match r, hr with
    | 0, _ => rfl
    | 1, _ => rfl
  rw [h1]
  congr 1
  refine cntB_cong (fun i hi => ?_)
  rw [Nat.add_comm 1 i, Nat.testBit_succ, show (2 * q + r) / 2 = q by omega]
theorem and_2 (a b r s : Nat) (hr : r < 2) (hs : s < 2) : (2 * a + r) &&& (2 * b + s) = 2 * (a &&& b) + (r &&& s) := by
  apply Nat.eq_of_testBit_eq
  intro i
  cases i with
  | zero =>
    rw [Nat.testBit_and, Nat.testBit_zero, Nat.testBit_zero, Nat.testBit_zero]
    match r, hr, s, hs with
    | 0, _, 0, _ => simp
    | 0, _, 1, _ => simp
    | 1, _, 0, _ => simp
    | 1, _, 1, _ => simp [Nat.add_mod]
  | succ i =>
    have h : (r &&& s) < 2 := Nat.lt_of_le_of_lt Nat.and_le_left hr
    rw [Nat.testBit_and, Nat.testBit_succ, Nat.testBit_succ, Nat.testBit_succ, show (2 * a + r) / 2 = a by omega, show (2 * b + s) / 2 = b by omega, show (2 * (a &&& b) + (r &&& s)) / 2 = a &&& b by omega, Nat.testBit_and]
theorem cntB_pred : ∀ (N x : Nat), 0 < x → x < 2 ^ N → cntB (x &&& (x - 1)).testBit N + 1 = cntB x.testBit N
  | 0, x, h0, h1 => absurd h1 (by omega)
  | N + 1, x, h0, h1 => by
    obtain ⟨q, r, hr, rfl⟩ : ∃ q r, r < 2 ∧ x = 2 * q + r := ⟨x / 2, x % 2, by omega, by omega⟩
    match r, hr with
    | 1, _ =>
      rw [show 2 * q + 1 - 1 = 2 * q + 0 by omega, and_2 _ _ _ _ (by decide) (by decide), Nat.and_self, cntB_2 _ _ _ (by decide), show 1 &&& 0 = 0 from rfl, cntB_2 _ _ _ (by decide)]
      omega
    | 0, _ =>
      have ih := cntB_pred N q (by omega) (by rw [Nat.pow_succ] at h1; omega)
      rw [show 2 * q + 0 - 1 = 2 * (q - 1) + 1 by omega, and_2 _ _ _ _ (by decide) (by decide), show 0 &&& 1 = 0 from rfl, cntB_2 _ _ _ (by decide), cntB_2 _ _ _ (by decide)]
      omega
theorem cntB_z : ∀ (N x : Nat), x < 2 ^ N → (cntB x.testBit N = 0 ↔ x = 0)
  | 0, x, h => by
    have : x = 0 := by omega
    subst this
    exact ⟨fun _ => rfl, fun _ => rfl⟩
  | N + 1, x, h => by
    obtain ⟨q, r, hr, rfl⟩ : ∃ q r, r < 2 ∧ x = 2 * q + r := ⟨x / 2, x % 2, by omega, by omega⟩
    have ih := cntB_z N q (by rw [Nat.pow_succ] at h; omega)
    rw [cntB_2 _ _ _ hr]
    omega
/-- x less its n lowest ones -/
def kern (x : Nat) : Nat → Nat
  | 0 => x
  | n + 1 => kern x n &&& (kern x n - 1)
theorem kern_le (x : Nat) : ∀ n, kern x n ≤ x
  | 0 => Nat.le_refl _
  | n + 1 => Nat.le_trans Nat.and_le_left (kern_le x n)
theorem kern_c {x N : Nat} (hx : x < 2 ^ N) : ∀ n, n ≤ cntB x.testBit N → cntB (kern x n).testBit N + n = cntB x.testBit N
  | 0, _ => rfl
  | n + 1, h => by
    have ih := kern_c hx n (by omega)
    have hl := Nat.lt_of_le_of_lt (kern_le x n) hx
    have hp : 0 < kern x n := by
      rcases Nat.eq_zero_or_pos (kern x n) with e | e
      · have := (cntB_z N _ hl).mpr e
        omega
      · exact e
    have := cntB_pred N _ hp hl
    show cntB (kern x n &&& (kern x n - 1)).testBit N + (n + 1) = _
    omega
theorem ones_L {x : Nat} : ∀ n, n ≤ cntB x.testBit 24 → x < 2 ^ 24 → L_X12_ones_4 (nI x) n = (nI (kern x n), nI n)
  | 0, _, _ => iter_z _ _
  | n + 1, h, hx => by
    have ih := ones_L n (by omega) hx
    have e : L_X12_ones_4 (nI x) (n + 1) = ((L_X12_ones_4 (nI x) n).1 &&& ((L_X12_ones_4 (nI x) n).1 - 1), (L_X12_ones_4 (nI x) n).2 + 1) := iter_s _ _ _
    have hc := kern_c hx n (by omega)
    have hl := Nat.lt_of_le_of_lt (kern_le x n) hx
    have hp : 1 ≤ kern x n := by
      rcases Nat.eq_zero_or_pos (kern x n) with q | q
      · have := (cntB_z 24 _ hl).mpr q
        omega
      · exact q
    rw [e, ih]
    dsimp only
    rw [show (1 : Int32) = nI 1 from rfl, sub_nI hp, and_nI, nI_add]
    rfl
theorem ones_eq {x : Nat} (hx : x < 2 ^ 24) : f_X12_ones (nI x) = nI (cntB x.testBit 24) := by
  have hle := cntB_le x.testBit 24
  have h0 : ∀ k, k ≤ cntB x.testBit 24 → ((L_X12_ones_4 (nI x) k).1 = 0 ↔ k = cntB x.testBit 24) := by
    intro k hk
    rw [ones_L k hk hx]
    have hc := kern_c hx k hk
    have hl := Nat.lt_of_le_of_lt (kern_le x k) hx
    constructor
    · intro q
      have q2 := congrArg Int32.toNatClampNeg (show nI (kern x k) = nI 0 from q)
      rw [nI_clamp (by omega), nI_clamp (by omega)] at q2
      have := (cntB_z 24 _ hl).mpr q2
      omega
    · intro q
      have : kern x k = 0 := (cntB_z 24 _ hl).mp (by omega)
      show nI (kern x k) = 0
      rw [this]
      rfl
  have hw : wh_ (fun k => decide ((L_X12_ones_4 (nI x) k).1 = 0)) 32 = cntB x.testBit 24 := by
    have h1 := wh_yes 32 (fun k => decide ((L_X12_ones_4 (nI x) k).1 = 0)) ⟨cntB x.testBit 24, by omega, decide_eq_true ((h0 _ (Nat.le_refl _)).mpr rfl)⟩
    rcases Nat.lt_trichotomy (wh_ (fun k => decide ((L_X12_ones_4 (nI x) k).1 = 0)) 32) (cntB x.testBit 24) with h2 | h2 | h2
    · have := (h0 _ (Nat.le_of_lt h2)).mp (of_decide_eq_true h1)
      omega
    · exact h2
    · have := wh_no 32 _ _ h2
      exact absurd ((h0 _ (Nat.le_refl _)).mpr rfl) (of_decide_eq_false this)
  unfold f_X12_ones
  rw [hw, ones_L _ (Nat.le_refl _) hx]
/-- both sides count the same ones -/
theorem ones_bitc {x : Nat} (hx : x < 2 ^ 24) : f_X12_ones (nI x) = f_J6_bitCount_0f7a4 (nI x) := by rw [ones_eq hx, bitc_eq hx]
