def bt (x : Int32) (i : Nat) : Bool := x.toBitVec.getLsbD i
theorem b_ext {x y : Int32} (h : ∀ i, i < 32 → bt x i = bt y i) : x = y := Int32.toBitVec_inj.mp (BitVec.eq_of_getLsbD_eq (fun i hi => h i hi))
theorem b_or (x y : Int32) (i : Nat) : bt (x ||| y) i = (bt x i || bt y i) := by unfold bt; rw [Int32.toBitVec_or, BitVec.getLsbD_or]
theorem b_and (x y : Int32) (i : Nat) : bt (x &&& y) i = (bt x i && bt y i) := by unfold bt; rw [Int32.toBitVec_and, BitVec.getLsbD_and]
theorem b_xor (x y : Int32) (i : Nat) : bt (x ^^^ y) i = (bt x i ^^ bt y i) := by unfold bt; rw [Int32.toBitVec_xor, BitVec.getLsbD_xor]
theorem b_big {x : Int32} {i : Nat} (h : 32 ≤ i) : bt x i = false := BitVec.getLsbD_of_ge _ _ h
theorem b_255 (i : Nat) : bt 255 i = decide (i < 8) := by
  rcases Nat.lt_or_ge i 32 with h | h
  · exact (by decide +kernel : ∀ i, i < 32 → bt 255 i = decide (i < 8)) i h
  · rw [b_big h, decide_eq_false (by omega)]
theorem b_65535 (i : Nat) : bt 65535 i = decide (i < 16) := by
  rcases Nat.lt_or_ge i 32 with h | h
  · exact (by decide +kernel : ∀ i, i < 32 → bt 65535 i = decide (i < 16)) i h
  · rw [b_big h, decide_eq_false (by omega)]
theorem b_m1 : ∀ i, i < 32 → bt (-1) i = true := by decide +kernel
theorem b_0 (i : Nat) : bt 0 i = false := BitVec.getLsbD_zero
theorem s_l : ∀ n, n < 32 → ((nI n &&& 31).toBitVec.smod 32).toNat = n := by decide +kernel
theorem s_u : ∀ n, n < 32 → (((nI n).toUInt32 &&& Int32.toUInt32 31).toBitVec % 32).toNat = n := by decide +kernel
theorem b_shl (n : Nat) (hn : n < 32) (x : Int32) {i : Nat} (hi : i < 32) : bt (x <<< (nI n &&& 31)) i = (decide (n ≤ i) && bt x (i - n)) := by
  unfold bt
  rw [Int32.toBitVec_shiftLeft]
  show (x.toBitVec <<< ((nI n &&& 31).toBitVec.smod 32).toNat).getLsbD i = _
  rw [s_l n hn, BitVec.getLsbD_shiftLeft]
  rcases Nat.lt_or_ge i n with h | h
  · simp [h, Nat.not_le.mpr h]
  · simp [hi, h, Nat.not_lt.mpr h]
theorem b_ushr (n : Nat) (hn : n < 32) (x : Int32) (i : Nat) : bt ((x.toUInt32 >>> ((nI n).toUInt32 &&& Int32.toUInt32 31)).toInt32) i = bt x (n + i) := by
  show (x.toUInt32 >>> ((nI n).toUInt32 &&& Int32.toUInt32 31)).toBitVec.getLsbD i = x.toUInt32.toBitVec.getLsbD (n + i)
  rw [UInt32.toBitVec_shiftRight]
  show (x.toUInt32.toBitVec >>> (((nI n).toUInt32 &&& Int32.toUInt32 31).toBitVec % 32).toNat).getLsbD i = _
  rw [s_u n hn, BitVec.getLsbD_ushiftRight]
theorem b_sshr (n : Nat) (hn : n < 32) (x : Int32) {i : Nat} (hi : i < 32) : bt (x >>> (nI n &&& 31)) i = if n + i < 32 then bt x (n + i) else bt x 31 := by
  unfold bt
  rw [Int32.toBitVec_shiftRight]
  show (x.toBitVec.sshiftRight ((nI n &&& 31).toBitVec.smod 32).toNat).getLsbD i = _
  rw [s_l n hn, BitVec.getLsbD_sshiftRight, BitVec.msb_eq_getLsbD_last]
  simp [hi]
theorem b_shl8 (x : Int32) {i : Nat} (hi : i < 32) : bt (x <<< ((8 : Int32) &&& 31)) i = (decide (8 ≤ i) && bt x (i - 8)) := b_shl 8 (by omega) x hi
theorem b_shl16 (x : Int32) {i : Nat} (hi : i < 32) : bt (x <<< ((16 : Int32) &&& 31)) i = (decide (16 ≤ i) && bt x (i - 16)) := b_shl 16 (by omega) x hi
theorem b_shl24 (x : Int32) {i : Nat} (hi : i < 32) : bt (x <<< ((24 : Int32) &&& 31)) i = (decide (24 ≤ i) && bt x (i - 24)) := b_shl 24 (by omega) x hi
theorem b_sshr8 (x : Int32) {i : Nat} (hi : i < 32) : bt (x >>> ((8 : Int32) &&& 31)) i = if 8 + i < 32 then bt x (8 + i) else bt x 31 := b_sshr 8 (by omega) x hi
/-! ===== nI under and, xor, >>>, one bit, 65535 ===== -/

theorem in_iff {v a b : Int64} : f_X12_in v a b = true ↔ a ≤ v ∧ v ≤ b := by
  unfold f_X12_in
  by_cases h1 : v < a
  · rw [if_pos h1]
    exact ⟨(fun h => nomatch h), fun h => absurd h1 (Int64.not_lt.mpr h.1)⟩
  · rw [if_neg h1]
    by_cases h2 : b < v
    · rw [if_pos h2]
      exact ⟨(fun h => nomatch h), fun h => absurd h2 (Int64.not_lt.mpr h.2)⟩
    · rw [if_neg h2]
      exact ⟨fun _ => ⟨Int64.not_lt.mp h1, Int64.not_lt.mp h2⟩, fun _ => rfl⟩
theorem in_vin {x : Int32} {b : Int64} {n : Nat} (hb : b.toInt < n) (h : f_X12_in x.toInt64 0 b = true) : vp_in x n := by
  obtain ⟨h1, h2⟩ := in_iff.mp h
  have a1 := Int64.le_iff_toInt_le.mp h1
  have a2 := Int64.le_iff_toInt_le.mp h2
  rw [Int32.toInt_toInt64] at a1 a2
  have a3 : (0 : Int64).toInt = 0 := rfl
  exact vp_in_iff.mpr ⟨by omega, by omega⟩
theorem isPerson_in {n p : Int32} (h : vp_in n 21) (c : f_X12_isPerson n p = true) : vp_in p 20 := by
  obtain ⟨e, hl⟩ := vin_nI h
  refine in_vin ?_ c
  rw [Int32.toInt_toInt64, e, fb_sub1 (by omega)]
  omega
theorem isBoat_in {n p : Int32} (h : vp_in n 7) (c : f_X12_isBoat n p = true) : vp_in p 6 := by
  obtain ⟨e, hl⟩ := vin_nI h
  refine in_vin ?_ c
  rw [Int32.toInt_toInt64, e, fb_sub1 (by omega)]
  omega
theorem sea_in {mW : Nat → Int32} {p : Int32} (h : ∀ q, vp_in q 20 → f_X12_of mW q 1 < 6) (hp : vp_in p 20) (c : f_X12_isAtSea mW p = true) : vp_in (f_X12_of mW p 1) 6 := by
  have h6 : (6 : Int32) = nI 6 := rfl
  have h1 := h p hp
  refine vin_of' (by decide) ?_ (by rw [← h6]; exact h1)
  unfold f_X12_isAtSea at c
  by_cases h2 : f_X12_of mW p 1 < 0
  · rw [if_pos h2] at c; cases c
  · exact Int32.not_lt.mp h2
def L_X12_ones_4 (x : Int32) : Nat → Int32 × Int32 := iter_ (fun n sn => ((sn.1 &&& (sn.1 - 1)), (sn.2 + 1))) (x, 0)
def f_X12_ones (x : Int32) : Int32 := (L_X12_ones_4 x (wh_ (fun k => decide ((L_X12_ones_4 x k).1 = 0)) 32)).2
theorem and_pred {v n : Nat} (h : v % 2 ^ n = 0) : (v &&& (v - 1)) % 2 ^ (n + 1) = 0 := by
  apply Nat.eq_of_testBit_eq
  intro i
  rw [Nat.testBit_mod_two_pow, Nat.testBit_and, Nat.zero_testBit]
  by_cases hi : i < n
  · have h1 : v.testBit i = false := by
      have q := congrArg (fun z => z.testBit i) h
      simpa [Nat.testBit_mod_two_pow, hi] using q
    simp [h1]
  · by_cases e : i = n
    · subst e
      obtain ⟨m, hm⟩ := Nat.dvd_of_mod_eq_zero h
      have hp : 0 < 2 ^ i := Nat.two_pow_pos i
      by_cases z : m = 0
      · subst z
        simp [hm]
      · have e1 : v / 2 ^ i = m := by rw [hm]; exact Nat.mul_div_cancel_left _ hp
        have e2 : (v - 1) / 2 ^ i = m - 1 := by
          obtain ⟨r, rfl⟩ : ∃ r, m = r + 1 := ⟨m - 1, by omega⟩
          have : v - 1 = (2 ^ i - 1) + 2 ^ i * r := by rw [hm, Nat.mul_add]; omega
          rw [this, Nat.add_mul_div_left _ _ hp, Nat.div_eq_of_lt (by omega)]
          omega
        rw [Nat.testBit_eq_decide_div_mod_eq, Nat.testBit_eq_decide_div_mod_eq, e1, e2]
        by_cases o : m % 2 = 1
        · have : ¬ (m - 1) % 2 = 1 := by omega
          simp [this]
        · simp [o]
    · have : ¬ i < n + 1 := by omega
      simp [this]
theorem and_pred32 (v : Int32) : (v &&& (v - 1)).toBitVec.toNat = v.toBitVec.toNat &&& (v.toBitVec.toNat - 1) := by
  rw [Int32.toBitVec_and, BitVec.toNat_and, Int32.toBitVec_sub, BitVec.toNat_sub]
  have h1 : (1 : Int32).toBitVec.toNat = 1 := rfl
  rw [h1]
  have hl := v.toBitVec.isLt
  by_cases z : v.toBitVec.toNat = 0
  · rw [z, Nat.zero_and, Nat.zero_and]
  · congr 1
    omega
theorem ones_low (x : Int32) : ∀ n, n ≤ 32 → (L_X12_ones_4 x n).1.toBitVec.toNat % 2 ^ n = 0 :=
  iter_inv (fun n (s : Int32 × Int32) => s.1.toBitVec.toNat % 2 ^ n = 0) (Nat.mod_one _) (fun n s hn h => by
    show (s.1 &&& (s.1 - 1)).toBitVec.toNat % 2 ^ (n + 1) = 0
    rw [and_pred32]
    exact and_pred h)
theorem ones_ex (x : Int32) : ∃ n, n ≤ 32 ∧ (L_X12_ones_4 x n).1 = 0 := by
  refine ⟨32, Nat.le_refl _, ?_⟩
  have h := ones_low x 32 (Nat.le_refl _)
  have hl := (L_X12_ones_4 x 32).1.toBitVec.isLt
  rw [Nat.mod_eq_of_lt hl] at h
  exact Int32.toBitVec_inj.mp (BitVec.eq_of_toNat_eq h)
set_option maxHeartbeats 4000000 in
set_option maxRecDepth 100000 in
theorem c_X12_ones (l : Launch) (D : va_G) (A : Nat → Prop) (w : va_W) (α : Nat → Nat) (x : Int32) : Met l yX12_ones (ws_ yX12_ones cX12_ones 3 (some .int)) ({ frames := 0, cells := 0, slots := 0, locals := 0 }) (gPre D A [.int x] w) (gR (some (.int (f_X12_ones x)))) 0 0 A := by
  refine g_met [(0, .int x)] (plainFor_of_name (by decide)) (Nat.le_of_ble_eq_true rfl) rfl (fun pg en s mi ar below me co ls S hK hP hD hE hS hr hlk hnm hl => ?_)
  refine lv_iconst (v := 0) S.1 S.2.1 dX12_ones_0 (by decide) ?_
  refine lv_istore_n (lv' := [(1, .int 0), (0, .int x)]) S.1 S.2.1 dX12_ones_1 rfl hl (by decide) rfl (fun ls hl => ?_)
  refine lv_iload_n S.1 S.2.1 dX12_ones_2 rfl (lv_at hl 1 rfl) ?_
  refine lv_istore_n (lv' := [(2, .int x), (1, .int 0), (0, .int x)]) S.1 S.2.1 dX12_ones_3 rfl hl (by decide) rfl (fun ls hl => ?_)
  have lp4 : ∀ (j n : Nat), n + j = (wh_ (fun k => decide ((L_X12_ones_4 x k).1 = 0)) 32) → ∀ (locs : List Loc) (ls : Array Slot), va_S A s.heap s.heap locs → lv_has ls 3 [(2, .int ((L_X12_ones_4 x n).1)), (1, .int ((L_X12_ones_4 x n).2)), (0, .int x)] → W pg l en ({ frames := 0, cells := 0, slots := 0, locals := 0 } : Room) s mi ar below me co s.heap locs 0 0 (MQ below (gR (some (.int (f_X12_ones x)))) ar s 0 0 A) (F0 mi 4 ls []) := by
    intro j
    induction j with
    | zero =>
      intro n hn locs ls hS hl
      have hn : (wh_ (fun k => decide ((L_X12_ones_4 x k).1 = 0)) 32) = n := hn.symm
      subst hn
      refine lv_iload_n S.1 S.2.1 dX12_ones_4 rfl (lv_at hl 0 rfl) ?_
      refine lv_if_eq (tgt := 20) S.1 S.2.1 dX12_ones_5 (by decide) (fun (c1 : (L_X12_ones_4 x (wh_ (fun k => decide ((L_X12_ones_4 x k).1 = 0)) 32)).1 = 0) => ?_) (fun (c1 : ¬ (L_X12_ones_4 x (wh_ (fun k => decide ((L_X12_ones_4 x k).1 = 0)) 32)).1 = 0) => absurd c1 (wh_outP (ones_ex x)))
      refine lv_iload_n S.1 S.2.1 dX12_ones_20 rfl (lv_at hl 1 rfl) ?_
      have hf : (f_X12_ones x) = (L_X12_ones_4 x (wh_ (fun k => decide ((L_X12_ones_4 x k).1 = 0)) 32)).2 := rfl
      exact g_iretR S hr hlk hS (by rw [hf] <;> rfl) dX12_ones_21
    | succ j ih =>
      intro n hn locs ls hS hl
      refine lv_iload_n S.1 S.2.1 dX12_ones_4 rfl (lv_at hl 0 rfl) ?_
      refine lv_if_eq (tgt := 20) S.1 S.2.1 dX12_ones_5 (by decide) (fun (c2 : (L_X12_ones_4 x n).1 = 0) => absurd c2 (wh_inP hn)) (fun (c2 : ¬ (L_X12_ones_4 x n).1 = 0) => ?_)
      refine lv_iinc (v := ((L_X12_ones_4 x n).2 + 1)) (lv' := [(1, .int ((L_X12_ones_4 x n).2 + 1)), (2, .int ((L_X12_ones_4 x n).1)), (0, .int x)]) S.1 S.2.1 dX12_ones_8 hl (k := 1) rfl (rfl) (by decide) rfl (fun ls hl => ?_)
      refine lv_iload_n S.1 S.2.1 dX12_ones_11 rfl (lv_at hl 1 rfl) ?_
      refine lv_iload_n S.1 S.2.1 dX12_ones_12 rfl (lv_at hl 1 rfl) ?_
      refine lv_iconst (v := 1) S.1 S.2.1 dX12_ones_13 (by decide) ?_
      refine lv_isub S.1 S.2.1 dX12_ones_14 ?_
      refine lv_iand S.1 S.2.1 dX12_ones_15 ?_
      refine lv_istore_n (lv' := [(2, .int ((L_X12_ones_4 x n).1 &&& ((L_X12_ones_4 x n).1 - 1))), (1, .int ((L_X12_ones_4 x n).2 + 1)), (0, .int x)]) S.1 S.2.1 dX12_ones_16 rfl hl (by decide) rfl (fun ls hl => ?_)
      refine lv_goto (tgt := 4) S.1 S.2.1 dX12_ones_17 (by decide) ?_
      have hL : (L_X12_ones_4 x (n + 1)) = (((L_X12_ones_4 x n).1 &&& ((L_X12_ones_4 x n).1 - 1)), ((L_X12_ones_4 x n).2 + 1)) := (iter_s _ _ _).trans (rfl)
      refine ih (n + 1) (by omega) _ _ hS ?_
      rw [hL]; exact lv_sub hl [0, 1, 2] rfl
  have hL0 : (L_X12_ones_4 x 0) = (x, 0) := iter_z _ _
  exact lp4 (wh_ (fun k => decide ((L_X12_ones_4 x k).1 = 0)) 32) 0 (Nat.zero_add _) _ _ hS (by rw [hL0]; exact lv_sub hl [0, 1, 2] rfl)
def f_X12_turnout (mPpl : Int32) (mW : Nat → Int32) : Int32 := (f_X12_ones (f_X12_allLaid mPpl mW))
set_option maxHeartbeats 4000000 in
set_option maxRecDepth 100000 in
theorem c_X12_turnout (l : Launch) (D : va_G) (A : Nat → Prop) (w : va_W) (α : Nat → Nat) (k : Nat) (mTaped : Int32) (mErr : Int32) (mPpl : Int32) (mBts : Int32) (mUs : Int32) (mRa : Int32) (mSt : Int32) (mKi : Int32) (mWd : Int64) (mVal : Int32) (mLet : Int32) (mFin : Int32) (mNp : Int32) (mNb : Int32) (mOuts : Int32) (mWant : Int32) (mFnd : Int32) (mTape : Nat → Int32) (mNum : Nat → Int32) (mNam : Nat → Int32) (mFst : Nat → Int32) (mBnm : Nat → Int32) (mW : Nat → Int32) (mUn : Nat → Int32) (mSl : Nat → Int32) (mKp : Nat → Int32) (mnNum : Nat → Int32) (mnNam : Nat → Int32) (mnBo : Nat → Int32) (mnBn : Nat → Int32) (hB0 : Blk w k (cM D α k mTaped mErr mPpl mBts mUs mRa mSt mKi mWd mVal mLet mFin mNp mNb mOuts mWant mFnd mTape mNum mNam mFst mBnm mW mUn mSl mKp mnNum mnNam mnBo mnBn)) (hy0 : vp_in mPpl 21) : Met l yX12_turnout (ws_ yX12_turnout cX12_turnout 1 (some .int)) ({ frames := 3, cells := 0, slots := 0, locals := 67 }) (gPre D A [.ref (α (k))] w) (gR (some (.int (f_X12_turnout mPpl mW)))) 0 0 A := by
  refine g_met [(0, .ref (α (k)))] (plainFor_of_name (by decide)) (Nat.le_of_ble_eq_true rfl) rfl (fun pg en s mi ar below me co ls S hK hP hD hE hS hr hlk hnm hl => ?_)
  have hpn := vin_lt (show vp_in mPpl 21 by assumption)
  refine lv_aload_n S.1 S.2.1 dX12_turnout_0 rfl (lv_at hl 0 rfl) ?_
  refine g_aftR0 (st1 := [.int (f_X12_allLaid mPpl mW)]) (g_V (As := []) (rest := []) S mi_X12_allLaid qw1720 (c_X12_allLaid l D A w α (k) mTaped mErr mPpl mBts mUs mRa mSt mKi mWd mVal mLet mFin mNp mNb mOuts mWant mFnd mTape mNum mNam mFst mBnm mW mUn mSl mKp mnNum mnNam mnBo mnBn hB0 (by first | assumption | exact vin_d (by decide) | exact vp_in_nI (by omega) (by decide) | decide | omega)) hK hP hD hE hS (hB0 0 _ rfl) rfl rfl rfl hl.1 (Nat.le_of_ble_eq_true rfl) rfl rfl ⟨(Nat.le_of_ble_eq_true rfl), (Nat.le_of_ble_eq_true rfl)⟩ ⟨(Nat.le_of_ble_eq_true rfl), (Nat.le_of_ble_eq_true rfl)⟩ dX12_turnout_1) hS rfl (fun locs hS => ?_)
  refine g_aftR0 (st1 := [.int (f_X12_ones (f_X12_allLaid mPpl mW))]) (g_St (As := [.int (f_X12_allLaid mPpl mW)]) (rest := []) S ms_X12_ones qw1645 (c_X12_ones l D A w α (f_X12_allLaid mPpl mW)) hK hP hD hE hS rfl rfl hl.1 (Nat.le_of_ble_eq_true rfl) rfl rfl ⟨(Nat.le_of_ble_eq_true rfl), (Nat.le_of_ble_eq_true rfl)⟩ ⟨(Nat.le_of_ble_eq_true rfl), (Nat.le_of_ble_eq_true rfl)⟩ dX12_turnout_4) hS rfl (fun locs hS => ?_)
  have hf : (f_X12_turnout mPpl mW) = (f_X12_ones (f_X12_allLaid mPpl mW)) := rfl
  exact g_iretR S hr hlk hS (by rw [hf] <;> rfl) dX12_turnout_7
def f_X12_would (mPpl : Int32) (mNum : Nat → Int32) (mW : Nat → Int32) (p : Int32) (o : Int32) (b : Int32) : Int32 := (bif (f_X12_isPerson mPpl p) then (bif (f_X12_isPerson mPpl o) then (bif (f_X12_isBasket b) then (bif (f_X12_isAtSea mW p) then (-3) else (bif (f_X12_has mW p o) then (bif (f_X12_isOpen mW) then (if b < (mW 3) then (f_X12_wrongBy mNum mW p o b) else (-5)) else (-5)) else (-4))) else (-1)) else (-1)) else (-1))
set_option maxHeartbeats 4000000 in
set_option maxRecDepth 100000 in
theorem c_X12_would (l : Launch) (D : va_G) (A : Nat → Prop) (w : va_W) (α : Nat → Nat) (k : Nat) (mTaped : Int32) (mErr : Int32) (mPpl : Int32) (mBts : Int32) (mUs : Int32) (mRa : Int32) (mSt : Int32) (mKi : Int32) (mWd : Int64) (mVal : Int32) (mLet : Int32) (mFin : Int32) (mNp : Int32) (mNb : Int32) (mOuts : Int32) (mWant : Int32) (mFnd : Int32) (mTape : Nat → Int32) (mNum : Nat → Int32) (mNam : Nat → Int32) (mFst : Nat → Int32) (mBnm : Nat → Int32) (mW : Nat → Int32) (mUn : Nat → Int32) (mSl : Nat → Int32) (mKp : Nat → Int32) (mnNum : Nat → Int32) (mnNam : Nat → Int32) (mnBo : Nat → Int32) (mnBn : Nat → Int32) (p : Int32) (o : Int32) (b : Int32) (hB0 : Blk w k (cM D α k mTaped mErr mPpl mBts mUs mRa mSt mKi mWd mVal mLet mFin mNp mNb mOuts mWant mFnd mTape mNum mNam mFst mBnm mW mUn mSl mKp mnNum mnNam mnBo mnBn)) (hy0 : vp_in mPpl 21) : Met l yX12_would (ws_ yX12_would cX12_would 4 (some .int)) ({ frames := 3, cells := 0, slots := 0, locals := 67 }) (gPre D A [.ref (α (k)), .int p, .int o, .int b] w) (gR (some (.int (f_X12_would mPpl mNum mW p o b)))) 0 0 A := by
  refine g_met [(0, .ref (α (k))), (1, .int p), (2, .int o), (3, .int b)] (plainFor_of_name (by decide)) (Nat.le_of_ble_eq_true rfl) rfl (fun pg en s mi ar below me co ls S hK hP hD hE hS hr hlk hnm hl => ?_)
  refine lv_aload_n S.1 S.2.1 dX12_would_0 rfl (lv_at hl 0 rfl) ?_
  refine lv_iload_n S.1 S.2.1 dX12_would_1 rfl (lv_at hl 1 rfl) ?_
  refine g_aftR0 (st1 := [.int (b2i (f_X12_isPerson mPpl p))]) (g_V (As := [.int p]) (rest := []) S mi_X12_isPerson qw1611 (c_X12_isPerson l D A w α (k) mTaped mErr mPpl mBts mUs mRa mSt mKi mWd mVal mLet mFin mNp mNb mOuts mWant mFnd mTape mNum mNam mFst mBnm mW mUn mSl mKp mnNum mnNam mnBo mnBn p hB0) hK hP hD hE hS (hB0 0 _ rfl) rfl rfl rfl hl.1 (Nat.le_of_ble_eq_true rfl) rfl rfl ⟨(Nat.le_of_ble_eq_true rfl), (Nat.le_of_ble_eq_true rfl)⟩ ⟨(Nat.le_of_ble_eq_true rfl), (Nat.le_of_ble_eq_true rfl)⟩ dX12_would_2) hS rfl (fun locs hS => ?_)
  refine g_bifeq (b := (f_X12_isPerson mPpl p)) (tgt := 23) S dX12_would_5 (by decide) (fun (c1 : (f_X12_isPerson mPpl p) = false) => ?_) (fun (c1 : (f_X12_isPerson mPpl p) = true) => ?_)
  · refine lv_iconst (v := (-1)) S.1 S.2.1 dX12_would_23 (by decide) ?_
    have hf : (f_X12_would mPpl mNum mW p o b) = (-1) := cd_f c1
    exact g_iretR S hr hlk hS (by rw [hf] <;> rfl) dX12_would_24
  · have hh1 := isPerson_in (by assumption) c1
    refine lv_aload_n S.1 S.2.1 dX12_would_8 rfl (lv_at hl 0 rfl) ?_
    refine lv_iload_n S.1 S.2.1 dX12_would_9 rfl (lv_at hl 2 rfl) ?_
    refine g_aftR0 (st1 := [.int (b2i (f_X12_isPerson mPpl o))]) (g_V (As := [.int o]) (rest := []) S mi_X12_isPerson qw1611 (c_X12_isPerson l D A w α (k) mTaped mErr mPpl mBts mUs mRa mSt mKi mWd mVal mLet mFin mNp mNb mOuts mWant mFnd mTape mNum mNam mFst mBnm mW mUn mSl mKp mnNum mnNam mnBo mnBn o hB0) hK hP hD hE hS (hB0 0 _ rfl) rfl rfl rfl hl.1 (Nat.le_of_ble_eq_true rfl) rfl rfl ⟨(Nat.le_of_ble_eq_true rfl), (Nat.le_of_ble_eq_true rfl)⟩ ⟨(Nat.le_of_ble_eq_true rfl), (Nat.le_of_ble_eq_true rfl)⟩ dX12_would_10) hS rfl (fun locs hS => ?_)
    refine g_bifeq (b := (f_X12_isPerson mPpl o)) (tgt := 23) S dX12_would_13 (by decide) (fun (c2 : (f_X12_isPerson mPpl o) = false) => ?_) (fun (c2 : (f_X12_isPerson mPpl o) = true) => ?_)
    · refine lv_iconst (v := (-1)) S.1 S.2.1 dX12_would_23 (by decide) ?_
      have hf : (f_X12_would mPpl mNum mW p o b) = (-1) := (cd_t c1).trans (cd_f c2)
      exact g_iretR S hr hlk hS (by rw [hf] <;> rfl) dX12_would_24
    · have hh2 := isPerson_in (by assumption) c2
      refine lv_iload_n S.1 S.2.1 dX12_would_16 rfl (lv_at hl 3 rfl) ?_
      refine g_aftR0 (st1 := [.int (b2i (f_X12_isBasket b))]) (g_St (As := [.int b]) (rest := []) S ms_X12_isBasket qw1637 (c_X12_isBasket l D A w α b) hK hP hD hE hS rfl rfl hl.1 (Nat.le_of_ble_eq_true rfl) rfl rfl ⟨(Nat.le_of_ble_eq_true rfl), (Nat.le_of_ble_eq_true rfl)⟩ ⟨(Nat.le_of_ble_eq_true rfl), (Nat.le_of_ble_eq_true rfl)⟩ dX12_would_17) hS rfl (fun locs hS => ?_)
      refine g_bifne (b := (f_X12_isBasket b)) (tgt := 25) S dX12_would_20 (by decide) (fun (c3 : (f_X12_isBasket b) = true) => ?_) (fun (c3 : (f_X12_isBasket b) = false) => ?_)
      · refine lv_aload_n S.1 S.2.1 dX12_would_25 rfl (lv_at hl 0 rfl) ?_
        refine lv_iload_n S.1 S.2.1 dX12_would_26 rfl (lv_at hl 1 rfl) ?_
        refine g_aftR0 (st1 := [.int (b2i (f_X12_isAtSea mW p))]) (g_V (As := [.int p]) (rest := []) S mi_X12_isAtSea qw1583 (c_X12_isAtSea l D A w α (k) mTaped mErr mPpl mBts mUs mRa mSt mKi mWd mVal mLet mFin mNp mNb mOuts mWant mFnd mTape mNum mNam mFst mBnm mW mUn mSl mKp mnNum mnNam mnBo mnBn p hB0 (by first | assumption | exact vin_d (by decide) | exact vp_in_nI (by omega) (by decide) | decide | omega)) hK hP hD hE hS (hB0 0 _ rfl) rfl rfl rfl hl.1 (Nat.le_of_ble_eq_true rfl) rfl rfl ⟨(Nat.le_of_ble_eq_true rfl), (Nat.le_of_ble_eq_true rfl)⟩ ⟨(Nat.le_of_ble_eq_true rfl), (Nat.le_of_ble_eq_true rfl)⟩ dX12_would_27) hS rfl (fun locs hS => ?_)
        refine g_bifeq (b := (f_X12_isAtSea mW p)) (tgt := 36) S dX12_would_30 (by decide) (fun (c4 : (f_X12_isAtSea mW p) = false) => ?_) (fun (c4 : (f_X12_isAtSea mW p) = true) => ?_)
        · refine lv_aload_n S.1 S.2.1 dX12_would_36 rfl (lv_at hl 0 rfl) ?_
          refine lv_iload_n S.1 S.2.1 dX12_would_37 rfl (lv_at hl 1 rfl) ?_
          refine lv_iload_n S.1 S.2.1 dX12_would_38 rfl (lv_at hl 2 rfl) ?_
          refine g_aftR0 (st1 := [.int (b2i (f_X12_has mW p o))]) (g_V (As := [.int p, .int o]) (rest := []) S mi_X12_has qw1660 (c_X12_has l D A w α (k) mTaped mErr mPpl mBts mUs mRa mSt mKi mWd mVal mLet mFin mNp mNb mOuts mWant mFnd mTape mNum mNam mFst mBnm mW mUn mSl mKp mnNum mnNam mnBo mnBn p o hB0 (by first | assumption | exact vin_d (by decide) | exact vp_in_nI (by omega) (by decide) | decide | omega)) hK hP hD hE hS (hB0 0 _ rfl) rfl rfl rfl hl.1 (Nat.le_of_ble_eq_true rfl) rfl rfl ⟨(Nat.le_of_ble_eq_true rfl), (Nat.le_of_ble_eq_true rfl)⟩ ⟨(Nat.le_of_ble_eq_true rfl), (Nat.le_of_ble_eq_true rfl)⟩ dX12_would_39) hS rfl (fun locs hS => ?_)
          refine g_bifne (b := (f_X12_has mW p o)) (tgt := 48) S dX12_would_42 (by decide) (fun (c5 : (f_X12_has mW p o) = true) => ?_) (fun (c5 : (f_X12_has mW p o) = false) => ?_)
          · refine lv_aload_n S.1 S.2.1 dX12_would_48 rfl (lv_at hl 0 rfl) ?_
            refine g_aftR0 (st1 := [.int (b2i (f_X12_isOpen mW))]) (g_V (As := []) (rest := []) S mi_X12_isOpen qw1621 (c_X12_isOpen l D A w α (k) mTaped mErr mPpl mBts mUs mRa mSt mKi mWd mVal mLet mFin mNp mNb mOuts mWant mFnd mTape mNum mNam mFst mBnm mW mUn mSl mKp mnNum mnNam mnBo mnBn hB0) hK hP hD hE hS (hB0 0 _ rfl) rfl rfl rfl hl.1 (Nat.le_of_ble_eq_true rfl) rfl rfl ⟨(Nat.le_of_ble_eq_true rfl), (Nat.le_of_ble_eq_true rfl)⟩ ⟨(Nat.le_of_ble_eq_true rfl), (Nat.le_of_ble_eq_true rfl)⟩ dX12_would_49) hS rfl (fun locs hS => ?_)
            refine g_bifeq (b := (f_X12_isOpen mW)) (tgt := 65) S dX12_would_52 (by decide) (fun (c6 : (f_X12_isOpen mW) = false) => ?_) (fun (c6 : (f_X12_isOpen mW) = true) => ?_)
            · refine lv_bipush (v := (-5)) S.1 S.2.1 dX12_would_65 (by decide) ?_
              refine lv_goto (tgt := 77) S.1 S.2.1 dX12_would_67 (by decide) ?_
              have hf : (f_X12_would mPpl mNum mW p o b) = (-5) := (cd_t c1).trans ((cd_t c2).trans ((cd_t c3).trans ((cd_f c4).trans ((cd_t c5).trans (cd_f c6)))))
              exact g_iretR S hr hlk hS (by rw [hf] <;> rfl) dX12_would_77
            · refine lv_iload_n S.1 S.2.1 dX12_would_55 rfl (lv_at hl 3 rfl) ?_
              refine lv_aload_n S.1 S.2.1 dX12_would_56 rfl (lv_at hl 0 rfl) ?_
              refine g_get (v := .ref (α (k + 6))) S hK hP (hB0 0 _ rfl) rfl inX12 9 (by decide) qw1383 rfl dX12_would_57 ?_
              refine lv_iconst (v := 3) S.1 S.2.1 dX12_would_60 (by decide) ?_
              refine g_iald S hK hP (hB0 6 _ rfl) (by first | assumption | exact vin_d (by decide) | exact vp_in_nI (by omega) (by decide) | decide) dX12_would_61 ?_
              refine lv_icmp_lt (tgt := 70) S.1 S.2.1 dX12_would_62 (by decide) (fun (c7 : b < (mW 3)) => ?_) (fun (c7 : ¬ b < (mW 3)) => ?_)
              · refine lv_aload_n S.1 S.2.1 dX12_would_70 rfl (lv_at hl 0 rfl) ?_
                refine lv_iload_n S.1 S.2.1 dX12_would_71 rfl (lv_at hl 1 rfl) ?_
                refine lv_iload_n S.1 S.2.1 dX12_would_72 rfl (lv_at hl 2 rfl) ?_
                refine lv_iload_n S.1 S.2.1 dX12_would_73 rfl (lv_at hl 3 rfl) ?_
                refine g_aftR0 (st1 := [.int (f_X12_wrongBy mNum mW p o b)]) (g_V (As := [.int p, .int o, .int b]) (rest := []) S mi_X12_wrongBy qw1664 (c_X12_wrongBy l D A w α (k) mTaped mErr mPpl mBts mUs mRa mSt mKi mWd mVal mLet mFin mNp mNb mOuts mWant mFnd mTape mNum mNam mFst mBnm mW mUn mSl mKp mnNum mnNam mnBo mnBn p o b hB0 (by first | assumption | exact vin_d (by decide) | exact vp_in_nI (by omega) (by decide) | decide | omega) (by first | assumption | exact vin_d (by decide) | exact vp_in_nI (by omega) (by decide) | decide | omega)) hK hP hD hE hS (hB0 0 _ rfl) rfl rfl rfl hl.1 (Nat.le_of_ble_eq_true rfl) rfl rfl ⟨(Nat.le_of_ble_eq_true rfl), (Nat.le_of_ble_eq_true rfl)⟩ ⟨(Nat.le_of_ble_eq_true rfl), (Nat.le_of_ble_eq_true rfl)⟩ dX12_would_74) hS rfl (fun locs hS => ?_)
                have hf : (f_X12_would mPpl mNum mW p o b) = (f_X12_wrongBy mNum mW p o b) := (cd_t c1).trans ((cd_t c2).trans ((cd_t c3).trans ((cd_f c4).trans ((cd_t c5).trans ((cd_t c6).trans (if_pos c7))))))
                exact g_iretR S hr hlk hS (by rw [hf] <;> rfl) dX12_would_77
              · refine lv_bipush (v := (-5)) S.1 S.2.1 dX12_would_65 (by decide) ?_
                refine lv_goto (tgt := 77) S.1 S.2.1 dX12_would_67 (by decide) ?_
                have hf : (f_X12_would mPpl mNum mW p o b) = (-5) := (cd_t c1).trans ((cd_t c2).trans ((cd_t c3).trans ((cd_f c4).trans ((cd_t c5).trans ((cd_t c6).trans (if_neg c7))))))
                exact g_iretR S hr hlk hS (by rw [hf] <;> rfl) dX12_would_77
          · refine lv_bipush (v := (-4)) S.1 S.2.1 dX12_would_45 (by decide) ?_
            have hf : (f_X12_would mPpl mNum mW p o b) = (-4) := (cd_t c1).trans ((cd_t c2).trans ((cd_t c3).trans ((cd_f c4).trans (cd_f c5))))
            exact g_iretR S hr hlk hS (by rw [hf] <;> rfl) dX12_would_47
        · refine lv_bipush (v := (-3)) S.1 S.2.1 dX12_would_33 (by decide) ?_
          have hf : (f_X12_would mPpl mNum mW p o b) = (-3) := (cd_t c1).trans ((cd_t c2).trans ((cd_t c3).trans (cd_t c4)))
          exact g_iretR S hr hlk hS (by rw [hf] <;> rfl) dX12_would_35
      · refine lv_iconst (v := (-1)) S.1 S.2.1 dX12_would_23 (by decide) ?_
        have hf : (f_X12_would mPpl mNum mW p o b) = (-1) := (cd_t c1).trans ((cd_t c2).trans (cd_f c3))
        exact g_iretR S hr hlk hS (by rw [hf] <;> rfl) dX12_would_24
