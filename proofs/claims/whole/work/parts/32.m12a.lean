
/-- a counter 35, 30 .. 0 -/
def sh7 (n : Nat) : Int32 := 35 - 5 * nI n
theorem sh7_s (n : Nat) : sh7 n + Int32.ofInt (-5) = sh7 (n + 1) := by
  unfold sh7
  rw [nI_succ, Int32.mul_add, Int32.mul_one, show Int32.ofInt (-5) = -5 from rfl]
  simp only [Int32.sub_eq_add_neg, Int32.neg_add, Int32.add_assoc]
theorem sh7_in {n j : Nat} (h : n + (j + 1) = 8) : ¬ sh7 n < 0 := by
  have : ∀ n, n < 8 → ¬ sh7 n < 0 := by decide +kernel
  exact this n (by omega)
theorem sh7_out : ¬ ¬ sh7 8 < 0 := by decide +kernel
/-- the powers of ten of a number's digits -/
def tn_ (n : Nat) (b : Int32) : Prop := ∃ k, b = nI (10 ^ k) ∧ k ≤ 9 ∧ 10 ≤ k + n
theorem tn_0 {b : Int32} : ¬ tn_ 0 b := fun ⟨k, _, h, h2⟩ => by omega
theorem tn_1 : tn_ 10 1 := ⟨0, rfl, by decide, by decide⟩
theorem p10 : ∀ k, k ≤ 9 → 0 < 10 ^ k ∧ 10 ^ k ≤ 1000000000 := by decide
theorem tn_ne {n : Nat} {b : Int32} (h : tn_ n b) : ¬ b = 0 := by
  obtain ⟨k, rfl, h1, _⟩ := h
  have := p10 k h1
  exact nI_ne0 (by omega) (by omega)
theorem fb_rngq (x : Int32) : -2147483648 ≤ x.toInt ∧ x.toInt < 2147483648 := ⟨x.le_toInt, x.toInt_lt⟩
theorem div_le {x : Int32} {d : Nat} (h0 : 0 < d) (hd : d < 2 ^ 31) : (x / nI d).toInt ≤ 2147483647 / (d : Int) := by
  by_cases hx : x < 0
  · have hp : (0 : Int) ≤ 2147483647 / (d : Int) := Int.ediv_nonneg (by decide) (by omega)
    have hneg : x.toInt < 0 := Int32.lt_iff_toInt_lt.mp hx
    have hlo := (fb_rngq x).1
    rw [Int32.toInt_div, nI_toInt hd]
    have e : x.toInt.tdiv (d : Int) = -((-x.toInt).tdiv (d : Int)) := by rw [Int.neg_tdiv]; omega
    have e2 : (-x.toInt).tdiv (d : Int) = (-x.toInt) / (d : Int) := Int.tdiv_eq_ediv_of_nonneg (by omega)
    have e3 : 0 ≤ (-x.toInt) / (d : Int) := Int.ediv_nonneg (by omega) (by omega)
    have e4 : (-x.toInt) / (d : Int) ≤ -x.toInt := Int.ediv_le_self _ (by omega)
    rw [e, e2]
    have e5 : (-((-x.toInt) / (d : Int))).bmod (2 ^ 32) = -((-x.toInt) / (d : Int)) := Int.bmod_eq_of_le (by omega) (by omega)
    rw [e5]
    omega
  · obtain ⟨n, hn, rfl⟩ := nI_of hx
    rw [pk_div hn h0 hd, nI_toInt (Nat.lt_of_le_of_lt (Nat.div_le_self _ _) hn)]
    have : n / d ≤ 2147483647 / d := Nat.div_le_div_right (by omega)
    have h2 : ((2147483647 / d : Nat) : Int) = 2147483647 / (d : Int) := rfl
    omega
theorem tn_s {n : Nat} {x b : Int32} (h : tn_ (n + 1) b) (c : ¬ x / b ≤ 9) : tn_ n (b * 10) := by
  obtain ⟨k, rfl, h1, h2⟩ := h
  have hk : k ≠ 9 := by
    rintro rfl
    refine c (Int32.le_iff_toInt_le.mpr ?_)
    have := @div_le x (10 ^ 9) (by decide) (by decide)
    have h9 : (9 : Int32).toInt = 9 := rfl
    rw [h9]
    refine Int.le_trans this ?_
    decide
  refine ⟨k + 1, ?_, by omega, by omega⟩
  rw [show (10 : Int32) = nI 10 from rfl, pk_mul, Nat.pow_succ]
def tm_ (n : Nat) (b : Int32) : Prop := (b = 0 ∧ 1 ≤ n) ∨ ∃ k, b = nI (10 ^ k) ∧ k ≤ 9 ∧ k + 2 ≤ n
theorem tm_0 {b : Int32} : ¬ tm_ 0 b := fun h => by
  rcases h with ⟨_, h⟩ | ⟨k, _, _, h⟩ <;> omega
theorem tm_of {n : Nat} {b : Int32} (h : tn_ n b) : tm_ 11 b := by
  obtain ⟨k, h1, h2, _⟩ := h
  exact Or.inr ⟨k, h1, h2, by omega⟩
theorem tm_s {n : Nat} {b : Int32} (h : tm_ (n + 1) b) (c : ¬ b ≤ 0) : tm_ n (b / 10) := by
  rcases h with ⟨rfl, h⟩ | ⟨k, rfl, h1, h2⟩
  · exact absurd (by decide) c
  · have hp := p10 k h1
    rw [show (10 : Int32) = nI 10 from rfl, pk_div (by omega) (by decide) (by decide)]
    cases k with
    | zero => exact Or.inl ⟨rfl, by omega⟩
    | succ k => exact Or.inr ⟨k, by rw [Nat.pow_succ, Nat.mul_div_cancel _ (by decide)], by omega, by omega⟩
theorem npos_ne {b : Int32} (h : ¬ b ≤ 0) : ¬ b = 0 := fun e => h (by rw [e]; decide)
def f_X12_startsText (i : Int32) : Int32 × Int32 × Int32 := ((-2), 0, i)
set_option maxHeartbeats 4000000 in
set_option maxRecDepth 100000 in
theorem c_X12_startsText (l : Launch) (D : va_G) (A : Nat → Prop) (w : va_W) (α : Nat → Nat) (k : Nat) (mTaped : Int32) (mErr : Int32) (mPpl : Int32) (mBts : Int32) (mUs : Int32) (mRa : Int32) (mSt : Int32) (mKi : Int32) (mWd : Int64) (mVal : Int32) (mLet : Int32) (mFin : Int32) (mNp : Int32) (mNb : Int32) (mOuts : Int32) (mWant : Int32) (mFnd : Int32) (mTape : Nat → Int32) (mNum : Nat → Int32) (mNam : Nat → Int32) (mFst : Nat → Int32) (mBnm : Nat → Int32) (mW : Nat → Int32) (mUn : Nat → Int32) (mSl : Nat → Int32) (mKp : Nat → Int32) (mnNum : Nat → Int32) (mnNam : Nat → Int32) (mnBo : Nat → Int32) (mnBn : Nat → Int32) (i : Int32) (hB0 : Blk w k (cM D α k mTaped mErr mPpl mBts mUs mRa mSt mKi mWd mVal mLet mFin mNp mNb mOuts mWant mFnd mTape mNum mNam mFst mBnm mW mUn mSl mKp mnNum mnNam mnBo mnBn)) : Met l yX12_startsText (ws_ yX12_startsText cX12_startsText 2 none) ({ frames := 0, cells := 0, slots := 0, locals := 0 }) (gPre D A [.ref (α (k)), .int i] w) (gQ D A none (fun w1 => Blk w1 k (cM D α k mTaped mErr mPpl mBts mUs mRa mSt mKi mWd mVal mLet mFin mNp mNb ((f_X12_startsText i).2.1) ((f_X12_startsText i).2.2) ((f_X12_startsText i).1) mTape mNum mNam mFst mBnm mW mUn mSl mKp mnNum mnNam mnBo mnBn) ∧ Same w w1 k 14)) 0 0 A := by
  refine g_met [(0, .ref (α (k))), (1, .int i)] (plainFor_of_name (by decide)) (Nat.le_of_ble_eq_true rfl) rfl (fun pg en s mi ar below me co ls S hK hP hD hE hS hr hlk hnm hl => ?_)
  have hF : Same w w k 14 := Same.rf
  refine lv_aload_n S.1 S.2.1 dX12_startsText_0 rfl (lv_at hl 0 rfl) ?_
  refine lv_iconst (v := 0) S.1 S.2.1 dX12_startsText_1 (by decide) ?_
  refine g_put S hK hP hD hS (hB0 0 _ rfl) rfl inX12 tyX12_ok nmX12 27 (by decide) qw1401 rfl rfl rfl (Nat.le_of_ble_eq_true rfl) dX12_startsText_2 (fun w1 H locs hw hP hD hS => ?_)
  have hF := Same.set hF 0 hw (by decide)
  have hB0 : Blk w1 k (cM D α k mTaped mErr mPpl mBts mUs mRa mSt mKi mWd mVal mLet mFin mNp mNb 0 mWant mFnd mTape mNum mNam mFst mBnm mW mUn mSl mKp mnNum mnNam mnBo mnBn) := hB0.set 0 hw (Nat.le_of_ble_eq_true rfl) rfl
  refine lv_aload_n S.1 S.2.1 dX12_startsText_5 rfl (lv_at hl 0 rfl) ?_
  refine lv_iload_n S.1 S.2.1 dX12_startsText_6 rfl (lv_at hl 1 rfl) ?_
  refine g_put S hK hP hD hS (hB0 0 _ rfl) rfl inX12 tyX12_ok nmX12 28 (by decide) qw1402 rfl rfl rfl (Nat.le_of_ble_eq_true rfl) dX12_startsText_7 (fun w2 H locs hw hP hD hS => ?_)
  have hF := Same.set hF 0 hw (by decide)
  have hB0 : Blk w2 k (cM D α k mTaped mErr mPpl mBts mUs mRa mSt mKi mWd mVal mLet mFin mNp mNb 0 i mFnd mTape mNum mNam mFst mBnm mW mUn mSl mKp mnNum mnNam mnBo mnBn) := hB0.set 0 hw (Nat.le_of_ble_eq_true rfl) rfl
  refine lv_aload_n S.1 S.2.1 dX12_startsText_10 rfl (lv_at hl 0 rfl) ?_
  refine lv_bipush (v := (-2)) S.1 S.2.1 dX12_startsText_11 (by decide) ?_
  refine g_put S hK hP hD hS (hB0 0 _ rfl) rfl inX12 tyX12_ok nmX12 29 (by decide) qw1403 rfl rfl rfl (Nat.le_of_ble_eq_true rfl) dX12_startsText_13 (fun w3 H locs hw hP hD hS => ?_)
  have hF := Same.set hF 0 hw (by decide)
  have hB0 : Blk w3 k (cM D α k mTaped mErr mPpl mBts mUs mRa mSt mKi mWd mVal mLet mFin mNp mNb 0 i (-2) mTape mNum mNam mFst mBnm mW mUn mSl mKp mnNum mnNam mnBo mnBn) := hB0.set 0 hw (Nat.le_of_ble_eq_true rfl) rfl
  have hf : (f_X12_startsText i) = ((-2), 0, i) := rfl
  exact g_vret S hr hlk hP hD hS (rfl) (⟨by rw [hf]; exact hB0, hF⟩) dX12_startsText_16
def J_X12_says_9 (mOuts : Int32) (mWant : Int32) (mFnd : Int32) (c : Int32) : Int32 := (if mOuts = mWant then c else mFnd)
def f_X12_says (mOuts : Int32) (mWant : Int32) (mFnd : Int32) (c : Int32) : Int32 × Int32 := ((J_X12_says_9 mOuts mWant mFnd c), (mOuts + 1))
set_option maxHeartbeats 4000000 in
set_option maxRecDepth 100000 in
theorem c_X12_says (l : Launch) (D : va_G) (A : Nat → Prop) (w : va_W) (α : Nat → Nat) (k : Nat) (mTaped : Int32) (mErr : Int32) (mPpl : Int32) (mBts : Int32) (mUs : Int32) (mRa : Int32) (mSt : Int32) (mKi : Int32) (mWd : Int64) (mVal : Int32) (mLet : Int32) (mFin : Int32) (mNp : Int32) (mNb : Int32) (mOuts : Int32) (mWant : Int32) (mFnd : Int32) (mTape : Nat → Int32) (mNum : Nat → Int32) (mNam : Nat → Int32) (mFst : Nat → Int32) (mBnm : Nat → Int32) (mW : Nat → Int32) (mUn : Nat → Int32) (mSl : Nat → Int32) (mKp : Nat → Int32) (mnNum : Nat → Int32) (mnNam : Nat → Int32) (mnBo : Nat → Int32) (mnBn : Nat → Int32) (c : Int32) (hB0 : Blk w k (cM D α k mTaped mErr mPpl mBts mUs mRa mSt mKi mWd mVal mLet mFin mNp mNb mOuts mWant mFnd mTape mNum mNam mFst mBnm mW mUn mSl mKp mnNum mnNam mnBo mnBn)) : Met l yX12_says (ws_ yX12_says cX12_says 2 none) ({ frames := 0, cells := 0, slots := 0, locals := 0 }) (gPre D A [.ref (α (k)), .int c] w) (gQ D A none (fun w1 => Blk w1 k (cM D α k mTaped mErr mPpl mBts mUs mRa mSt mKi mWd mVal mLet mFin mNp mNb ((f_X12_says mOuts mWant mFnd c).2) mWant ((f_X12_says mOuts mWant mFnd c).1) mTape mNum mNam mFst mBnm mW mUn mSl mKp mnNum mnNam mnBo mnBn) ∧ Same w w1 k 14)) 0 0 A := by
  refine g_met [(0, .ref (α (k))), (1, .int c)] (plainFor_of_name (by decide)) (Nat.le_of_ble_eq_true rfl) rfl (fun pg en s mi ar below me co ls S hK hP hD hE hS hr hlk hnm hl => ?_)
  have hF : Same w w k 14 := Same.rf
  refine lv_aload_n S.1 S.2.1 dX12_says_0 rfl (lv_at hl 0 rfl) ?_
  refine lv_aload_n S.1 S.2.1 dX12_says_1 rfl (lv_at hl 0 rfl) ?_
  refine g_get (v := .int mOuts) S hK hP (hB0 0 _ rfl) rfl inX12 27 (by decide) qw1401 rfl dX12_says_2 ?_
  refine lv_aload_n S.1 S.2.1 dX12_says_5 rfl (lv_at hl 0 rfl) ?_
  refine g_get (v := .int mWant) S hK hP (hB0 0 _ rfl) rfl inX12 28 (by decide) qw1402 rfl dX12_says_6 ?_
  have jn9 : ∀ (locs : List Loc) (ls : Array Slot), va_S A s.heap s.heap locs → lv_has ls 2 [(0, .ref (α (k))), (1, .int c)] → W pg l en ({ frames := 0, cells := 0, slots := 0, locals := 0 } : Room) s mi ar below me co s.heap locs 0 0 (MQ below (gQ D A none (fun w1 => Blk w1 k (cM D α k mTaped mErr mPpl mBts mUs mRa mSt mKi mWd mVal mLet mFin mNp mNb ((f_X12_says mOuts mWant mFnd c).2) mWant ((f_X12_says mOuts mWant mFnd c).1) mTape mNum mNam mFst mBnm mW mUn mSl mKp mnNum mnNam mnBo mnBn) ∧ Same w w1 k 14)) ar s 0 0 A) (F0 mi 20 ls [.int (J_X12_says_9 mOuts mWant mFnd c), .ref (α (k))]) := by
    intro locs ls hS hl
    refine g_put S hK hP hD hS (hB0 0 _ rfl) rfl inX12 tyX12_ok nmX12 29 (by decide) qw1403 rfl rfl rfl (Nat.le_of_ble_eq_true rfl) dX12_says_20 (fun w1 H locs hw hP hD hS => ?_)
    have hF := Same.set hF 0 hw (by decide)
    have hB0 : Blk w1 k (cM D α k mTaped mErr mPpl mBts mUs mRa mSt mKi mWd mVal mLet mFin mNp mNb mOuts mWant (J_X12_says_9 mOuts mWant mFnd c) mTape mNum mNam mFst mBnm mW mUn mSl mKp mnNum mnNam mnBo mnBn) := hB0.set 0 hw (Nat.le_of_ble_eq_true rfl) rfl
    refine lv_aload_n S.1 S.2.1 dX12_says_23 rfl (lv_at hl 0 rfl) ?_
    refine lv_dup S.1 S.2.1 dX12_says_24 rfl ?_
    refine g_get (v := .int mOuts) S hK hP (hB0 0 _ rfl) rfl inX12 27 (by decide) qw1401 rfl dX12_says_25 ?_
    refine lv_iconst (v := 1) S.1 S.2.1 dX12_says_28 (by decide) ?_
    refine lv_iadd S.1 S.2.1 dX12_says_29 ?_
    refine g_put S hK hP hD hS (hB0 0 _ rfl) rfl inX12 tyX12_ok nmX12 27 (by decide) qw1401 rfl rfl rfl (Nat.le_of_ble_eq_true rfl) dX12_says_30 (fun w2 H locs hw hP hD hS => ?_)
    have hF := Same.set hF 0 hw (by decide)
    have hB0 : Blk w2 k (cM D α k mTaped mErr mPpl mBts mUs mRa mSt mKi mWd mVal mLet mFin mNp mNb (mOuts + 1) mWant (J_X12_says_9 mOuts mWant mFnd c) mTape mNum mNam mFst mBnm mW mUn mSl mKp mnNum mnNam mnBo mnBn) := hB0.set 0 hw (Nat.le_of_ble_eq_true rfl) rfl
    have hf : (f_X12_says mOuts mWant mFnd c) = ((J_X12_says_9 mOuts mWant mFnd c), (mOuts + 1)) := rfl
    exact g_vret S hr hlk hP hD hS (rfl) (⟨by rw [hf]; exact hB0, hF⟩) dX12_says_33
  refine lv_icmp_ne (tgt := 16) S.1 S.2.1 dX12_says_9 (by decide) (fun (c1 : ¬ mOuts = mWant) => ?_) (fun (c1 : mOuts = mWant) => ?_)
  · refine lv_aload_n S.1 S.2.1 dX12_says_16 rfl (lv_at hl 0 rfl) ?_
    refine g_get (v := .int mFnd) S hK hP (hB0 0 _ rfl) rfl inX12 29 (by decide) qw1403 rfl dX12_says_17 ?_
    have hJ : (J_X12_says_9 mOuts mWant mFnd c) = mFnd := if_neg c1
    have qj := jn9
    rw [hJ] at qj
    exact qj _ _ hS (lv_sub hl [0, 1] rfl)
  · refine lv_iload_n S.1 S.2.1 dX12_says_12 rfl (lv_at hl 1 rfl) ?_
    refine lv_goto (tgt := 20) S.1 S.2.1 dX12_says_13 (by decide) ?_
    have hJ : (J_X12_says_9 mOuts mWant mFnd c) = c := if_pos c1
    have qj := jn9
    rw [hJ] at qj
    exact qj _ _ hS (lv_sub hl [0, 1] rfl)
noncomputable def S_X12_saysWord_28 (mOuts : Int32) (mWant : Int32) (mFnd : Int32) (x : Int64) (n : Nat) (sn : Int32 × Int32) : Int32 × Int32 := (f_X12_says (sn.2) mWant (sn.1) (96 + ((x >>> ((sh7 (n)).toInt64 &&& 63)) &&& 31).toInt32))
noncomputable def J_X12_saysWord_19 (mOuts : Int32) (mWant : Int32) (mFnd : Int32) (x : Int64) (n : Nat) (sn : Int32 × Int32) : Int32 × Int32 := (if ((x >>> ((sh7 (n)).toInt64 &&& 63)) &&& 31).toInt32 ≤ 0 then (sn.1, sn.2) else ((S_X12_saysWord_28 mOuts mWant mFnd x n sn).1, (S_X12_saysWord_28 mOuts mWant mFnd x n sn).2))
noncomputable def G_X12_saysWord_3 (mOuts : Int32) (mWant : Int32) (mFnd : Int32) (x : Int64) (n : Nat) (sn : Int32 × Int32) : Int32 × Int32 := ((J_X12_saysWord_19 mOuts mWant mFnd x n sn).1, (J_X12_saysWord_19 mOuts mWant mFnd x n sn).2)
noncomputable def L_X12_saysWord_3 (mOuts : Int32) (mWant : Int32) (mFnd : Int32) (x : Int64) : Nat → Int32 × Int32 := iter_ (G_X12_saysWord_3 mOuts mWant mFnd x) (mFnd, mOuts)
noncomputable def f_X12_saysWord (mOuts : Int32) (mWant : Int32) (mFnd : Int32) (x : Int64) : Int32 × Int32 := ((L_X12_saysWord_3 mOuts mWant mFnd x 8).1, (L_X12_saysWord_3 mOuts mWant mFnd x 8).2)
set_option maxHeartbeats 4000000 in
set_option maxRecDepth 100000 in
theorem c_X12_saysWord (l : Launch) (D : va_G) (A : Nat → Prop) (w : va_W) (α : Nat → Nat) (k : Nat) (mTaped : Int32) (mErr : Int32) (mPpl : Int32) (mBts : Int32) (mUs : Int32) (mRa : Int32) (mSt : Int32) (mKi : Int32) (mWd : Int64) (mVal : Int32) (mLet : Int32) (mFin : Int32) (mNp : Int32) (mNb : Int32) (mOuts : Int32) (mWant : Int32) (mFnd : Int32) (mTape : Nat → Int32) (mNum : Nat → Int32) (mNam : Nat → Int32) (mFst : Nat → Int32) (mBnm : Nat → Int32) (mW : Nat → Int32) (mUn : Nat → Int32) (mSl : Nat → Int32) (mKp : Nat → Int32) (mnNum : Nat → Int32) (mnNam : Nat → Int32) (mnBo : Nat → Int32) (mnBn : Nat → Int32) (x : Int64) (hB0 : Blk w k (cM D α k mTaped mErr mPpl mBts mUs mRa mSt mKi mWd mVal mLet mFin mNp mNb mOuts mWant mFnd mTape mNum mNam mFst mBnm mW mUn mSl mKp mnNum mnNam mnBo mnBn)) : Met l yX12_saysWord (ws_ yX12_saysWord cX12_saysWord 5 none) ({ frames := 1, cells := 0, slots := 0, locals := 21 }) (gPre D A [.ref (α (k)), .long x] w) (gQ D A none (fun w1 => Blk w1 k (cM D α k mTaped mErr mPpl mBts mUs mRa mSt mKi mWd mVal mLet mFin mNp mNb ((f_X12_saysWord mOuts mWant mFnd x).2) mWant ((f_X12_saysWord mOuts mWant mFnd x).1) mTape mNum mNam mFst mBnm mW mUn mSl mKp mnNum mnNam mnBo mnBn) ∧ Same w w1 k 14)) 0 0 A := by
  refine g_met [(0, .ref (α (k))), (1, .long x)] (plainFor_of_name (by decide)) (Nat.le_of_ble_eq_true rfl) rfl (fun pg en s mi ar below me co ls S hK hP hD hE hS hr hlk hnm hl => ?_)
  have hF : Same w w k 14 := Same.rf
  refine lv_bipush (v := 35) S.1 S.2.1 dX12_saysWord_0 (by decide) ?_
  refine lv_istore_n (lv' := [(3, .int 35), (0, .ref (α (k))), (1, .long x)]) S.1 S.2.1 dX12_saysWord_2 rfl hl (by decide) rfl (fun ls hl => ?_)
  have lp3 : ∀ (j n : Nat), n + j = 8 → ∀ (wl : va_W) (H : Heap) (locs : List Loc) (ls : Array Slot), va_P D vwCl wl H → va_D A wl → va_S A s.heap H locs → Same w wl k 14 → Blk wl k (cM D α k mTaped mErr mPpl mBts mUs mRa mSt mKi mWd mVal mLet mFin mNp mNb ((L_X12_saysWord_3 mOuts mWant mFnd x n).2) mWant ((L_X12_saysWord_3 mOuts mWant mFnd x n).1) mTape mNum mNam mFst mBnm mW mUn mSl mKp mnNum mnNam mnBo mnBn) → lv_has ls 5 [(3, .int (sh7 (n))), (0, .ref (α (k))), (1, .long x)] → W pg l en ({ frames := 1, cells := 0, slots := 0, locals := 21 } : Room) s mi ar below me co H locs 0 0 (MQ below (gQ D A none (fun w1 => Blk w1 k (cM D α k mTaped mErr mPpl mBts mUs mRa mSt mKi mWd mVal mLet mFin mNp mNb ((f_X12_saysWord mOuts mWant mFnd x).2) mWant ((f_X12_saysWord mOuts mWant mFnd x).1) mTape mNum mNam mFst mBnm mW mUn mSl mKp mnNum mnNam mnBo mnBn) ∧ Same w w1 k 14)) ar s 0 0 A) (F0 mi 3 ls []) := by
    intro j
    induction j with
    | zero =>
      intro n hn wl H locs ls hP hD hS hF hB0 hl
      have hn : 8 = n := hn.symm
      subst hn
      refine lv_iload_n S.1 S.2.1 dX12_saysWord_3 rfl (lv_at hl 0 rfl) ?_
      refine lv_if_lt (tgt := 37) S.1 S.2.1 dX12_saysWord_4 (by decide) (fun (c1 : (sh7 (8)) < 0) => ?_) (fun (c1 : ¬ (sh7 (8)) < 0) => absurd c1 (sh7_out))
      have hf : (f_X12_saysWord mOuts mWant mFnd x) = ((L_X12_saysWord_3 mOuts mWant mFnd x 8).1, (L_X12_saysWord_3 mOuts mWant mFnd x 8).2) := rfl
      exact g_vret S hr hlk hP hD hS (rfl) (⟨by rw [hf]; dsimp only; exact hB0, hF⟩) dX12_saysWord_37
    | succ j ih =>
      intro n hn wl H locs ls hP hD hS hF hB0 hl
      refine lv_iload_n S.1 S.2.1 dX12_saysWord_3 rfl (lv_at hl 0 rfl) ?_
      refine lv_if_lt (tgt := 37) S.1 S.2.1 dX12_saysWord_4 (by decide) (fun (c2 : (sh7 (n)) < 0) => absurd c2 (sh7_in hn)) (fun (c2 : ¬ (sh7 (n)) < 0) => ?_)
      refine lv_lload_n S.1 S.2.1 dX12_saysWord_7 rfl (lv_at hl 2 rfl) ?_
      refine lv_iload_n S.1 S.2.1 dX12_saysWord_8 rfl (lv_at hl 0 rfl) ?_
      refine lv_lshr (v := (x >>> ((sh7 (n)).toInt64 &&& 63))) S.1 S.2.1 dX12_saysWord_9 rfl ?_
      refine lv_ldc2 (v := 31) S.1 S.2.1 S.2.2.2.1 (S.2.2.2.2 _ qw1910) dX12_saysWord_10 ?_
      refine lv_land S.1 S.2.1 dX12_saysWord_13 ?_
      refine lv_l2i (v := ((x >>> ((sh7 (n)).toInt64 &&& 63)) &&& 31).toInt32) S.1 S.2.1 dX12_saysWord_14 rfl ?_
      refine lv_istore (lv' := [(4, .int (((x >>> ((sh7 (n)).toInt64 &&& 63)) &&& 31).toInt32)), (3, .int (sh7 (n))), (0, .ref (α (k))), (1, .long x)]) S.1 S.2.1 dX12_saysWord_15 hl (by decide) rfl (fun ls hl => ?_)
      refine lv_iload S.1 S.2.1 dX12_saysWord_17 (lv_at hl 0 rfl) ?_
      have jn19 : ∀ (wl : va_W) (H : Heap) (locs : List Loc) (ls : Array Slot), va_P D vwCl wl H → va_D A wl → va_S A s.heap H locs → Same w wl k 14 → Blk wl k (cM D α k mTaped mErr mPpl mBts mUs mRa mSt mKi mWd mVal mLet mFin mNp mNb ((J_X12_saysWord_19 mOuts mWant mFnd x n (L_X12_saysWord_3 mOuts mWant mFnd x n)).2) mWant ((J_X12_saysWord_19 mOuts mWant mFnd x n (L_X12_saysWord_3 mOuts mWant mFnd x n)).1) mTape mNum mNam mFst mBnm mW mUn mSl mKp mnNum mnNam mnBo mnBn) → lv_has ls 5 [(4, .int (((x >>> ((sh7 (n)).toInt64 &&& 63)) &&& 31).toInt32)), (3, .int (sh7 (n))), (0, .ref (α (k))), (1, .long x)] → W pg l en ({ frames := 1, cells := 0, slots := 0, locals := 21 } : Room) s mi ar below me co H locs 0 0 (MQ below (gQ D A none (fun w1 => Blk w1 k (cM D α k mTaped mErr mPpl mBts mUs mRa mSt mKi mWd mVal mLet mFin mNp mNb ((f_X12_saysWord mOuts mWant mFnd x).2) mWant ((f_X12_saysWord mOuts mWant mFnd x).1) mTape mNum mNam mFst mBnm mW mUn mSl mKp mnNum mnNam mnBo mnBn) ∧ Same w w1 k 14)) ar s 0 0 A) (F0 mi 31 ls []) := by
        intro wl H locs ls hP hD hS hF hB0 hl
        refine lv_iinc (v := (sh7 (n + 1))) (lv' := [(3, .int (sh7 (n + 1))), (4, .int (((x >>> ((sh7 (n)).toInt64 &&& 63)) &&& 31).toInt32)), (0, .ref (α (k))), (1, .long x)]) S.1 S.2.1 dX12_saysWord_31 hl (k := 1) rfl (sh7_s n) (by decide) rfl (fun ls hl => ?_)
        refine lv_goto (tgt := 3) S.1 S.2.1 dX12_saysWord_34 (by decide) ?_
        have hL : (L_X12_saysWord_3 mOuts mWant mFnd x (n + 1)) = ((J_X12_saysWord_19 mOuts mWant mFnd x n (L_X12_saysWord_3 mOuts mWant mFnd x n)).1, (J_X12_saysWord_19 mOuts mWant mFnd x n (L_X12_saysWord_3 mOuts mWant mFnd x n)).2) := (iter_s _ _ _).trans (show (G_X12_saysWord_3 mOuts mWant mFnd x n (L_X12_saysWord_3 mOuts mWant mFnd x n)) = ((J_X12_saysWord_19 mOuts mWant mFnd x n (L_X12_saysWord_3 mOuts mWant mFnd x n)).1, (J_X12_saysWord_19 mOuts mWant mFnd x n (L_X12_saysWord_3 mOuts mWant mFnd x n)).2) from rfl)
        refine ih (n + 1) (lp_n hn) _ _ _ _ hP hD hS hF ?_ ?_
        · rw [hL]; (try dsimp only); exact hB0
        · exact lv_sub hl [0, 2, 3] rfl
      refine lv_if_le (tgt := 31) S.1 S.2.1 dX12_saysWord_19 (by decide) (fun (c3 : ((x >>> ((sh7 (n)).toInt64 &&& 63)) &&& 31).toInt32 ≤ 0) => ?_) (fun (c3 : ¬ ((x >>> ((sh7 (n)).toInt64 &&& 63)) &&& 31).toInt32 ≤ 0) => ?_)
      · skip
        have hJ : (J_X12_saysWord_19 mOuts mWant mFnd x n (L_X12_saysWord_3 mOuts mWant mFnd x n)) = ((L_X12_saysWord_3 mOuts mWant mFnd x n).1, (L_X12_saysWord_3 mOuts mWant mFnd x n).2) := if_pos c3
        have qj := jn19
        rw [hJ] at qj
        (try dsimp only at qj)
        exact qj _ _ _ _ hP hD hS hF hB0 (lv_sub hl [0, 1, 2, 3] rfl)
      · refine lv_aload_n S.1 S.2.1 dX12_saysWord_22 rfl (lv_at hl 2 rfl) ?_
        refine lv_bipush (v := 96) S.1 S.2.1 dX12_saysWord_23 (by decide) ?_
        refine lv_iload S.1 S.2.1 dX12_saysWord_25 (lv_at hl 0 rfl) ?_
        refine lv_iadd S.1 S.2.1 dX12_saysWord_27 ?_
        have hNm : (f_X12_says ((L_X12_saysWord_3 mOuts mWant mFnd x n).2) mWant ((L_X12_saysWord_3 mOuts mWant mFnd x n).1) (96 + ((x >>> ((sh7 (n)).toInt64 &&& 63)) &&& 31).toInt32)) = (S_X12_saysWord_28 mOuts mWant mFnd x n (L_X12_saysWord_3 mOuts mWant mFnd x n)) := rfl
        have hCon := (c_X12_says l D A wl α (k) mTaped mErr mPpl mBts mUs mRa mSt mKi mWd mVal mLet mFin mNp mNb ((L_X12_saysWord_3 mOuts mWant mFnd x n).2) mWant ((L_X12_saysWord_3 mOuts mWant mFnd x n).1) mTape mNum mNam mFst mBnm mW mUn mSl mKp mnNum mnNam mnBo mnBn (96 + ((x >>> ((sh7 (n)).toInt64 &&& 63)) &&& 31).toInt32) hB0)
        rw [hNm] at hCon
        refine g_aft0 (st1 := []) (g_V (As := [.int (96 + ((x >>> ((sh7 (n)).toInt64 &&& 63)) &&& 31).toInt32)]) (rest := []) S mi_X12_says qw1911 hCon hK hP hD hE hS (hB0 0 _ rfl) rfl rfl rfl hl.1 (Nat.le_of_ble_eq_true rfl) rfl rfl ⟨(Nat.le_of_ble_eq_true rfl), (Nat.le_of_ble_eq_true rfl)⟩ ⟨(Nat.le_of_ble_eq_true rfl), (Nat.le_of_ble_eq_true rfl)⟩ dX12_saysWord_28) hS rfl (fun w1 H locs hQ hP hD hS => ?_)
        have hF := hF.trans hQ.2
        have hB0 : Blk w1 k (cM D α k mTaped mErr mPpl mBts mUs mRa mSt mKi mWd mVal mLet mFin mNp mNb ((S_X12_saysWord_28 mOuts mWant mFnd x n (L_X12_saysWord_3 mOuts mWant mFnd x n)).2) mWant ((S_X12_saysWord_28 mOuts mWant mFnd x n (L_X12_saysWord_3 mOuts mWant mFnd x n)).1) mTape mNum mNam mFst mBnm mW mUn mSl mKp mnNum mnNam mnBo mnBn) := hQ.1
        have hJ : (J_X12_saysWord_19 mOuts mWant mFnd x n (L_X12_saysWord_3 mOuts mWant mFnd x n)) = ((S_X12_saysWord_28 mOuts mWant mFnd x n (L_X12_saysWord_3 mOuts mWant mFnd x n)).1, (S_X12_saysWord_28 mOuts mWant mFnd x n (L_X12_saysWord_3 mOuts mWant mFnd x n)).2) := if_neg c3
        have qj := jn19
        rw [hJ] at qj
        (try dsimp only at qj)
        exact qj _ _ _ _ hP hD hS hF hB0 (lv_sub hl [0, 1, 2, 3] rfl)
  have hL0 : (L_X12_saysWord_3 mOuts mWant mFnd x 0) = (mFnd, mOuts) := iter_z _ _
  exact lp3 8 0 (Nat.zero_add 8) _ _ _ _ hP hD hS hF (by rw [hL0]; exact hB0) (lv_sub hl [0, 1, 2] rfl)
noncomputable def S_X12_saysNumber_9 (mOuts : Int32) (mWant : Int32) (mFnd : Int32) : Int32 × Int32 := (f_X12_says mOuts mWant mFnd 45)
noncomputable def J_X12_saysNumber_3 (mOuts : Int32) (mWant : Int32) (mFnd : Int32) (v : Int32) : Int32 × Int32 × Int32 := (if 0 ≤ v then (v, mFnd, mOuts) else ((-v), (S_X12_saysNumber_9 mOuts mWant mFnd).1, (S_X12_saysNumber_9 mOuts mWant mFnd).2))
noncomputable def T_X12_saysNumber_17 (mOuts : Int32) (mWant : Int32) (mFnd : Int32) (v : Int32) (sw17 : Int32) : Sum (Int32) (Int32) := (if ((J_X12_saysNumber_3 mOuts mWant mFnd v).1 / sw17) ≤ 9 then (.inr sw17) else (.inl (sw17 * 10)))
noncomputable def X_X12_saysNumber_17 (mOuts : Int32) (mWant : Int32) (mFnd : Int32) (v : Int32) : Int32 := whl_ ((T_X12_saysNumber_17 mOuts mWant mFnd v)) 10 1
noncomputable def S_X12_saysNumber_47 (mOuts : Int32) (mWant : Int32) (mFnd : Int32) (v : Int32) (sw33 : Int32 × Int32 × Int32) : Int32 × Int32 := (f_X12_says sw33.2.2 mWant sw33.2.1 (48 + (((J_X12_saysNumber_3 mOuts mWant mFnd v).1 / sw33.1) - ((J_X12_saysNumber_3 mOuts mWant mFnd v).1 / sw33.1) / 10 * 10)))
noncomputable def T_X12_saysNumber_33 (mOuts : Int32) (mWant : Int32) (mFnd : Int32) (v : Int32) (sw33 : Int32 × Int32 × Int32) : Sum (Int32 × Int32 × Int32) (Int32 × Int32 × Int32) := (if sw33.1 ≤ 0 then (.inr (sw33.1, sw33.2.1, sw33.2.2)) else (.inl ((sw33.1 / 10), (S_X12_saysNumber_47 mOuts mWant mFnd v sw33).1, (S_X12_saysNumber_47 mOuts mWant mFnd v sw33).2)))
noncomputable def X_X12_saysNumber_33 (mOuts : Int32) (mWant : Int32) (mFnd : Int32) (v : Int32) : Int32 × Int32 × Int32 := whl_ ((T_X12_saysNumber_33 mOuts mWant mFnd v)) 11 ((X_X12_saysNumber_17 mOuts mWant mFnd v), (J_X12_saysNumber_3 mOuts mWant mFnd v).2.1, (J_X12_saysNumber_3 mOuts mWant mFnd v).2.2)
noncomputable def f_X12_saysNumber (mOuts : Int32) (mWant : Int32) (mFnd : Int32) (v : Int32) : Int32 × Int32 := ((X_X12_saysNumber_33 mOuts mWant mFnd v).2.1, (X_X12_saysNumber_33 mOuts mWant mFnd v).2.2)
set_option maxHeartbeats 4000000 in
set_option maxRecDepth 100000 in
theorem c_X12_saysNumber (l : Launch) (D : va_G) (A : Nat → Prop) (w : va_W) (α : Nat → Nat) (k : Nat) (mTaped : Int32) (mErr : Int32) (mPpl : Int32) (mBts : Int32) (mUs : Int32) (mRa : Int32) (mSt : Int32) (mKi : Int32) (mWd : Int64) (mVal : Int32) (mLet : Int32) (mFin : Int32) (mNp : Int32) (mNb : Int32) (mOuts : Int32) (mWant : Int32) (mFnd : Int32) (mTape : Nat → Int32) (mNum : Nat → Int32) (mNam : Nat → Int32) (mFst : Nat → Int32) (mBnm : Nat → Int32) (mW : Nat → Int32) (mUn : Nat → Int32) (mSl : Nat → Int32) (mKp : Nat → Int32) (mnNum : Nat → Int32) (mnNam : Nat → Int32) (mnBo : Nat → Int32) (mnBn : Nat → Int32) (v : Int32) (hB0 : Blk w k (cM D α k mTaped mErr mPpl mBts mUs mRa mSt mKi mWd mVal mLet mFin mNp mNb mOuts mWant mFnd mTape mNum mNam mFst mBnm mW mUn mSl mKp mnNum mnNam mnBo mnBn)) : Met l yX12_saysNumber (ws_ yX12_saysNumber cX12_saysNumber 4 none) ({ frames := 1, cells := 0, slots := 0, locals := 21 }) (gPre D A [.ref (α (k)), .int v] w) (gQ D A none (fun w1 => Blk w1 k (cM D α k mTaped mErr mPpl mBts mUs mRa mSt mKi mWd mVal mLet mFin mNp mNb ((f_X12_saysNumber mOuts mWant mFnd v).2) mWant ((f_X12_saysNumber mOuts mWant mFnd v).1) mTape mNum mNam mFst mBnm mW mUn mSl mKp mnNum mnNam mnBo mnBn) ∧ Same w w1 k 14)) 0 0 A := by
  refine g_met [(0, .ref (α (k))), (1, .int v)] (plainFor_of_name (by decide)) (Nat.le_of_ble_eq_true rfl) rfl (fun pg en s mi ar below me co ls S hK hP hD hE hS hr hlk hnm hl => ?_)
  have hF : Same w w k 14 := Same.rf
  refine lv_iload_n S.1 S.2.1 dX12_saysNumber_0 rfl (lv_at hl 1 rfl) ?_
  refine lv_istore_n (lv' := [(2, .int v), (0, .ref (α (k))), (1, .int v)]) S.1 S.2.1 dX12_saysNumber_1 rfl hl (by decide) rfl (fun ls hl => ?_)
  refine lv_iload_n S.1 S.2.1 dX12_saysNumber_2 rfl (lv_at hl 0 rfl) ?_
  have jn3 : ∀ (wl : va_W) (H : Heap) (locs : List Loc) (ls : Array Slot), va_P D vwCl wl H → va_D A wl → va_S A s.heap H locs → Same w wl k 14 → Blk wl k (cM D α k mTaped mErr mPpl mBts mUs mRa mSt mKi mWd mVal mLet mFin mNp mNb ((J_X12_saysNumber_3 mOuts mWant mFnd v).2.2) mWant ((J_X12_saysNumber_3 mOuts mWant mFnd v).2.1) mTape mNum mNam mFst mBnm mW mUn mSl mKp mnNum mnNam mnBo mnBn) → lv_has ls 4 [(2, .int ((J_X12_saysNumber_3 mOuts mWant mFnd v).1)), (0, .ref (α (k))), (1, .int v)] → W pg l en ({ frames := 1, cells := 0, slots := 0, locals := 21 } : Room) s mi ar below me co H locs 0 0 (MQ below (gQ D A none (fun w1 => Blk w1 k (cM D α k mTaped mErr mPpl mBts mUs mRa mSt mKi mWd mVal mLet mFin mNp mNb ((f_X12_saysNumber mOuts mWant mFnd v).2) mWant ((f_X12_saysNumber mOuts mWant mFnd v).1) mTape mNum mNam mFst mBnm mW mUn mSl mKp mnNum mnNam mnBo mnBn) ∧ Same w w1 k 14)) ar s 0 0 A) (F0 mi 15 ls []) := by
    intro wl H locs ls hP hD hS hF hB0 hl
    refine lv_iconst (v := 1) S.1 S.2.1 dX12_saysNumber_15 (by decide) ?_
    refine lv_istore_n (lv' := [(3, .int 1), (2, .int ((J_X12_saysNumber_3 mOuts mWant mFnd v).1)), (0, .ref (α (k))), (1, .int v)]) S.1 S.2.1 dX12_saysNumber_16 rfl hl (by decide) rfl (fun ls hl => ?_)
    have jw17 : (tm_ 11 (X_X12_saysNumber_17 mOuts mWant mFnd v)) → ∀ (locs : List Loc) (ls : Array Slot), va_S A s.heap H locs → lv_has ls 4 [(3, .int (X_X12_saysNumber_17 mOuts mWant mFnd v)), (2, .int ((J_X12_saysNumber_3 mOuts mWant mFnd v).1)), (0, .ref (α (k))), (1, .int v)] → W pg l en ({ frames := 1, cells := 0, slots := 0, locals := 21 } : Room) s mi ar below me co H locs 0 0 (MQ below (gQ D A none (fun w1 => Blk w1 k (cM D α k mTaped mErr mPpl mBts mUs mRa mSt mKi mWd mVal mLet mFin mNp mNb ((f_X12_saysNumber mOuts mWant mFnd v).2) mWant ((f_X12_saysNumber mOuts mWant mFnd v).1) mTape mNum mNam mFst mBnm mW mUn mSl mKp mnNum mnNam mnBo mnBn) ∧ Same w w1 k 14)) ar s 0 0 A) (F0 mi 33 ls []) := by
      intro hpo locs ls hS hl
      have jw33 : ∀ (wl : va_W) (H : Heap) (locs : List Loc) (ls : Array Slot), va_P D vwCl wl H → va_D A wl → va_S A s.heap H locs → Same w wl k 14 → Blk wl k (cM D α k mTaped mErr mPpl mBts mUs mRa mSt mKi mWd mVal mLet mFin mNp mNb ((X_X12_saysNumber_33 mOuts mWant mFnd v).2.2) mWant ((X_X12_saysNumber_33 mOuts mWant mFnd v).2.1) mTape mNum mNam mFst mBnm mW mUn mSl mKp mnNum mnNam mnBo mnBn) → lv_has ls 4 [(3, .int ((X_X12_saysNumber_33 mOuts mWant mFnd v).1)), (2, .int ((J_X12_saysNumber_3 mOuts mWant mFnd v).1)), (0, .ref (α (k))), (1, .int v)] → W pg l en ({ frames := 1, cells := 0, slots := 0, locals := 21 } : Room) s mi ar below me co H locs 0 0 (MQ below (gQ D A none (fun w1 => Blk w1 k (cM D α k mTaped mErr mPpl mBts mUs mRa mSt mKi mWd mVal mLet mFin mNp mNb ((f_X12_saysNumber mOuts mWant mFnd v).2) mWant ((f_X12_saysNumber mOuts mWant mFnd v).1) mTape mNum mNam mFst mBnm mW mUn mSl mKp mnNum mnNam mnBo mnBn) ∧ Same w w1 k 14)) ar s 0 0 A) (F0 mi 58 ls []) := by
        intro wl H locs ls hP hD hS hF hB0 hl
        have hf : (f_X12_saysNumber mOuts mWant mFnd v) = ((X_X12_saysNumber_33 mOuts mWant mFnd v).2.1, (X_X12_saysNumber_33 mOuts mWant mFnd v).2.2) := rfl
        exact g_vret S hr hlk hP hD hS (rfl) (⟨by rw [hf]; dsimp only; exact hB0, hF⟩) dX12_saysNumber_58
      have lw33 : ∀ (n : Nat) (sw33 : Int32 × Int32 × Int32), (tm_ n sw33.1) → (X_X12_saysNumber_33 mOuts mWant mFnd v) = whl_ (T_X12_saysNumber_33 mOuts mWant mFnd v) n sw33 → ∀ (wl : va_W) (H : Heap) (locs : List Loc) (ls : Array Slot), va_P D vwCl wl H → va_D A wl → va_S A s.heap H locs → Same w wl k 14 → Blk wl k (cM D α k mTaped mErr mPpl mBts mUs mRa mSt mKi mWd mVal mLet mFin mNp mNb sw33.2.2 mWant sw33.2.1 mTape mNum mNam mFst mBnm mW mUn mSl mKp mnNum mnNam mnBo mnBn) → lv_has ls 4 [(3, .int sw33.1), (2, .int ((J_X12_saysNumber_3 mOuts mWant mFnd v).1)), (0, .ref (α (k))), (1, .int v)] → W pg l en ({ frames := 1, cells := 0, slots := 0, locals := 21 } : Room) s mi ar below me co H locs 0 0 (MQ below (gQ D A none (fun w1 => Blk w1 k (cM D α k mTaped mErr mPpl mBts mUs mRa mSt mKi mWd mVal mLet mFin mNp mNb ((f_X12_saysNumber mOuts mWant mFnd v).2) mWant ((f_X12_saysNumber mOuts mWant mFnd v).1) mTape mNum mNam mFst mBnm mW mUn mSl mKp mnNum mnNam mnBo mnBn) ∧ Same w w1 k 14)) ar s 0 0 A) (F0 mi 33 ls []) := by
        intro n
        induction n with
        | zero => intro sw33 hi; exact absurd hi (tm_0)
        | succ n ih =>
          intro sw33 hi hx wl H locs ls hP hD hS hF hB0 hl
          refine lv_iload_n S.1 S.2.1 dX12_saysNumber_33 rfl (lv_at hl 0 rfl) ?_
          refine lv_if_le (tgt := 58) S.1 S.2.1 dX12_saysNumber_34 (by decide) (fun (c2 : sw33.1 ≤ 0) => ?_) (fun (c2 : ¬ sw33.1 ≤ 0) => ?_)
          · skip
            have hT : (T_X12_saysNumber_33 mOuts mWant mFnd v) sw33 = .inr (sw33.1, sw33.2.1, sw33.2.2) := if_pos c2
            have hX := hx.trans (whl_o hT)
            have qj := jw33
            rw [hX] at qj
            (try dsimp only at qj)
            exact qj _ _ _ _ hP hD hS hF hB0 (lv_sub hl [0, 1, 2, 3] rfl)
          · refine lv_aload_n S.1 S.2.1 dX12_saysNumber_37 rfl (lv_at hl 2 rfl) ?_
            refine lv_bipush (v := 48) S.1 S.2.1 dX12_saysNumber_38 (by decide) ?_
            refine lv_iload_n S.1 S.2.1 dX12_saysNumber_40 rfl (lv_at hl 1 rfl) ?_
            refine lv_iload_n S.1 S.2.1 dX12_saysNumber_41 rfl (lv_at hl 0 rfl) ?_
            refine lv_idiv S.1 S.2.1 dX12_saysNumber_42 (npos_ne (by assumption)) ?_
            refine lv_bipush (v := 10) S.1 S.2.1 dX12_saysNumber_43 (by decide) ?_
            refine lv_irem S.1 S.2.1 dX12_saysNumber_45 (by decide) ?_
            refine lv_iadd S.1 S.2.1 dX12_saysNumber_46 ?_
            have hNm : (f_X12_says sw33.2.2 mWant sw33.2.1 (48 + (((J_X12_saysNumber_3 mOuts mWant mFnd v).1 / sw33.1) - ((J_X12_saysNumber_3 mOuts mWant mFnd v).1 / sw33.1) / 10 * 10))) = (S_X12_saysNumber_47 mOuts mWant mFnd v sw33) := rfl
            have hCon := (c_X12_says l D A wl α (k) mTaped mErr mPpl mBts mUs mRa mSt mKi mWd mVal mLet mFin mNp mNb sw33.2.2 mWant sw33.2.1 mTape mNum mNam mFst mBnm mW mUn mSl mKp mnNum mnNam mnBo mnBn (48 + (((J_X12_saysNumber_3 mOuts mWant mFnd v).1 / sw33.1) - ((J_X12_saysNumber_3 mOuts mWant mFnd v).1 / sw33.1) / 10 * 10)) hB0)
            rw [hNm] at hCon
            refine g_aft0 (st1 := []) (g_V (As := [.int (48 + (((J_X12_saysNumber_3 mOuts mWant mFnd v).1 / sw33.1) - ((J_X12_saysNumber_3 mOuts mWant mFnd v).1 / sw33.1) / 10 * 10))]) (rest := []) S mi_X12_says qw1911 hCon hK hP hD hE hS (hB0 0 _ rfl) rfl rfl rfl hl.1 (Nat.le_of_ble_eq_true rfl) rfl rfl ⟨(Nat.le_of_ble_eq_true rfl), (Nat.le_of_ble_eq_true rfl)⟩ ⟨(Nat.le_of_ble_eq_true rfl), (Nat.le_of_ble_eq_true rfl)⟩ dX12_saysNumber_47) hS rfl (fun w2 H locs hQ hP hD hS => ?_)
            have hF := hF.trans hQ.2
            have hB0 : Blk w2 k (cM D α k mTaped mErr mPpl mBts mUs mRa mSt mKi mWd mVal mLet mFin mNp mNb ((S_X12_saysNumber_47 mOuts mWant mFnd v sw33).2) mWant ((S_X12_saysNumber_47 mOuts mWant mFnd v sw33).1) mTape mNum mNam mFst mBnm mW mUn mSl mKp mnNum mnNam mnBo mnBn) := hQ.1
            refine lv_iload_n S.1 S.2.1 dX12_saysNumber_50 rfl (lv_at hl 0 rfl) ?_
            refine lv_bipush (v := 10) S.1 S.2.1 dX12_saysNumber_51 (by decide) ?_
            refine lv_idiv S.1 S.2.1 dX12_saysNumber_53 (by decide) ?_
            refine lv_istore_n (lv' := [(3, .int (sw33.1 / 10)), (2, .int ((J_X12_saysNumber_3 mOuts mWant mFnd v).1)), (0, .ref (α (k))), (1, .int v)]) S.1 S.2.1 dX12_saysNumber_54 rfl hl (by decide) rfl (fun ls hl => ?_)
            refine lv_goto (tgt := 33) S.1 S.2.1 dX12_saysNumber_55 (by decide) ?_
            have hT : (T_X12_saysNumber_33 mOuts mWant mFnd v) sw33 = .inl ((sw33.1 / 10), (S_X12_saysNumber_47 mOuts mWant mFnd v sw33).1, (S_X12_saysNumber_47 mOuts mWant mFnd v sw33).2) := if_neg c2
            have qi := ih ((sw33.1 / 10), (S_X12_saysNumber_47 mOuts mWant mFnd v sw33).1, (S_X12_saysNumber_47 mOuts mWant mFnd v sw33).2)
            (try dsimp only at qi)
            exact qi (tm_s hi (by assumption)) (hx.trans (whl_i hT)) _ _ _ _ hP hD hS hF hB0 (lv_sub hl [0, 1, 2, 3] rfl)
      have qs := lw33 11 ((X_X12_saysNumber_17 mOuts mWant mFnd v), (J_X12_saysNumber_3 mOuts mWant mFnd v).2.1, (J_X12_saysNumber_3 mOuts mWant mFnd v).2.2)
      (try dsimp only at qs)
      exact qs (hpo) rfl _ _ _ _ hP hD hS hF hB0 (lv_sub hl [0, 1, 2, 3] rfl)
    have lw17 : ∀ (n : Nat) (sw17 : Int32), (tn_ n sw17) → (X_X12_saysNumber_17 mOuts mWant mFnd v) = whl_ (T_X12_saysNumber_17 mOuts mWant mFnd v) n sw17 → ∀ (locs : List Loc) (ls : Array Slot), va_S A s.heap H locs → lv_has ls 4 [(3, .int sw17), (2, .int ((J_X12_saysNumber_3 mOuts mWant mFnd v).1)), (0, .ref (α (k))), (1, .int v)] → W pg l en ({ frames := 1, cells := 0, slots := 0, locals := 21 } : Room) s mi ar below me co H locs 0 0 (MQ below (gQ D A none (fun w1 => Blk w1 k (cM D α k mTaped mErr mPpl mBts mUs mRa mSt mKi mWd mVal mLet mFin mNp mNb ((f_X12_saysNumber mOuts mWant mFnd v).2) mWant ((f_X12_saysNumber mOuts mWant mFnd v).1) mTape mNum mNam mFst mBnm mW mUn mSl mKp mnNum mnNam mnBo mnBn) ∧ Same w w1 k 14)) ar s 0 0 A) (F0 mi 17 ls []) := by
      intro n
      induction n with
      | zero => intro sw17 hi; exact absurd hi (tn_0)
      | succ n ih =>
        intro sw17 hi hx locs ls hS hl
        refine lv_iload_n S.1 S.2.1 dX12_saysNumber_17 rfl (lv_at hl 1 rfl) ?_
        refine lv_iload_n S.1 S.2.1 dX12_saysNumber_18 rfl (lv_at hl 0 rfl) ?_
        refine lv_idiv S.1 S.2.1 dX12_saysNumber_19 (tn_ne hi) ?_
        refine lv_bipush (v := 9) S.1 S.2.1 dX12_saysNumber_20 (by decide) ?_
        refine lv_icmp_le (tgt := 33) S.1 S.2.1 dX12_saysNumber_22 (by decide) (fun (c3 : ((J_X12_saysNumber_3 mOuts mWant mFnd v).1 / sw17) ≤ 9) => ?_) (fun (c3 : ¬ ((J_X12_saysNumber_3 mOuts mWant mFnd v).1 / sw17) ≤ 9) => ?_)
        · skip
          have hT : (T_X12_saysNumber_17 mOuts mWant mFnd v) sw17 = .inr sw17 := if_pos c3
          have hX := hx.trans (whl_o hT)
          have qj := jw17
          rw [hX] at qj
          (try dsimp only at qj)
          exact qj (tm_of hi) _ _ hS (lv_sub hl [0, 1, 2, 3] rfl)
        · refine lv_iload_n S.1 S.2.1 dX12_saysNumber_25 rfl (lv_at hl 0 rfl) ?_
          refine lv_bipush (v := 10) S.1 S.2.1 dX12_saysNumber_26 (by decide) ?_
          refine lv_imul S.1 S.2.1 dX12_saysNumber_28 ?_
          refine lv_istore_n (lv' := [(3, .int (sw17 * 10)), (2, .int ((J_X12_saysNumber_3 mOuts mWant mFnd v).1)), (0, .ref (α (k))), (1, .int v)]) S.1 S.2.1 dX12_saysNumber_29 rfl hl (by decide) rfl (fun ls hl => ?_)
          refine lv_goto (tgt := 17) S.1 S.2.1 dX12_saysNumber_30 (by decide) ?_
          have hT : (T_X12_saysNumber_17 mOuts mWant mFnd v) sw17 = .inl (sw17 * 10) := if_neg c3
          have qi := ih (sw17 * 10)
          (try dsimp only at qi)
          exact qi (tn_s hi (by assumption)) (hx.trans (whl_i hT)) _ _ hS (lv_sub hl [0, 1, 2, 3] rfl)
    have qs := lw17 10 1
    (try dsimp only at qs)
    exact qs (tn_1) rfl _ _ hS (lv_sub hl [0, 1, 2, 3] rfl)
  refine lv_if_ge (tgt := 15) S.1 S.2.1 dX12_saysNumber_3 (by decide) (fun (c1 : 0 ≤ v) => ?_) (fun (c1 : ¬ 0 ≤ v) => ?_)
  · skip
    have hJ : (J_X12_saysNumber_3 mOuts mWant mFnd v) = (v, mFnd, mOuts) := if_pos c1
    have qj := jn3
    rw [hJ] at qj
    (try dsimp only at qj)
    exact qj _ _ _ _ hP hD hS hF hB0 (lv_sub hl [0, 1, 2] rfl)
  · refine lv_aload_n S.1 S.2.1 dX12_saysNumber_6 rfl (lv_at hl 1 rfl) ?_
    refine lv_bipush (v := 45) S.1 S.2.1 dX12_saysNumber_7 (by decide) ?_
    have hNm : (f_X12_says mOuts mWant mFnd 45) = (S_X12_saysNumber_9 mOuts mWant mFnd) := rfl
    have hCon := (c_X12_says l D A w α (k) mTaped mErr mPpl mBts mUs mRa mSt mKi mWd mVal mLet mFin mNp mNb mOuts mWant mFnd mTape mNum mNam mFst mBnm mW mUn mSl mKp mnNum mnNam mnBo mnBn 45 hB0)
    rw [hNm] at hCon
    refine g_aft0 (st1 := []) (g_V (As := [.int 45]) (rest := []) S mi_X12_says qw1911 hCon hK hP hD hE hS (hB0 0 _ rfl) rfl rfl rfl hl.1 (Nat.le_of_ble_eq_true rfl) rfl rfl ⟨(Nat.le_of_ble_eq_true rfl), (Nat.le_of_ble_eq_true rfl)⟩ ⟨(Nat.le_of_ble_eq_true rfl), (Nat.le_of_ble_eq_true rfl)⟩ dX12_saysNumber_9) hS rfl (fun w1 H locs hQ hP hD hS => ?_)
    have hF := hF.trans hQ.2
    have hB0 : Blk w1 k (cM D α k mTaped mErr mPpl mBts mUs mRa mSt mKi mWd mVal mLet mFin mNp mNb ((S_X12_saysNumber_9 mOuts mWant mFnd).2) mWant ((S_X12_saysNumber_9 mOuts mWant mFnd).1) mTape mNum mNam mFst mBnm mW mUn mSl mKp mnNum mnNam mnBo mnBn) := hQ.1
    refine lv_iload_n S.1 S.2.1 dX12_saysNumber_12 rfl (lv_at hl 0 rfl) ?_
    refine lv_ineg S.1 S.2.1 dX12_saysNumber_13 ?_
    refine lv_istore_n (lv' := [(2, .int (-v)), (0, .ref (α (k))), (1, .int v)]) S.1 S.2.1 dX12_saysNumber_14 rfl hl (by decide) rfl (fun ls hl => ?_)
    have hJ : (J_X12_saysNumber_3 mOuts mWant mFnd v) = ((-v), (S_X12_saysNumber_9 mOuts mWant mFnd).1, (S_X12_saysNumber_9 mOuts mWant mFnd).2) := if_neg c1
    have qj := jn3
    rw [hJ] at qj
    (try dsimp only at qj)
    exact qj _ _ _ _ hP hD hS hF hB0 (lv_sub hl [0, 1, 2] rfl)
