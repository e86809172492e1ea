def f_X12_in (v : Int64) (lo : Int64) (hi : Int64) : Bool := (if v < lo then false else (if hi < v then false else true))
set_option maxHeartbeats 4000000 in
set_option maxRecDepth 100000 in
theorem c_X12_in (l : Launch) (D : va_G) (A : Nat → Prop) (w : va_W) (α : Nat → Nat) (v : Int64) (lo : Int64) (hi : Int64) : Met l yX12_in (ws_ yX12_in cX12_in 6 (some .boolean)) ({ frames := 0, cells := 0, slots := 0, locals := 0 }) (gPre D A [.long v, .long lo, .long hi] w) (gR (some (.int (b2i (f_X12_in v lo hi))))) 0 0 A := by
  refine g_met [(0, .long v), (2, .long lo), (4, .long hi)] (plainFor_of_name (by decide)) (Nat.le_of_ble_eq_true rfl) rfl (fun pg en s mi ar below me co ls S hK hP hD hE hS hr hlk hnm hl => ?_)
  refine lv_lload_n S.1 S.2.1 dX12_in_0 rfl (lv_at hl 0 rfl) ?_
  refine lv_lload_n S.1 S.2.1 dX12_in_1 rfl (lv_at hl 1 rfl) ?_
  refine W.lcmp S.1 S.2.1 dX12_in_2 ?_
  refine lv_if_lt (tgt := 17) S.1 S.2.1 dX12_in_3 (by decide) (fun c1 => ?_) (fun c1 => ?_)
  · have c1 : v < lo := lgc_lt.mp c1
    refine lv_iconst (v := 0) S.1 S.2.1 dX12_in_17 (by decide) ?_
    have hf : (f_X12_in v lo hi) = false := if_pos c1
    exact g_zretR S hr hlk hS rfl (by rw [hf] <;> rfl) dX12_in_18
  · have c1 : ¬ (v < lo) := fun h => c1 (lgc_lt.mpr h)
    refine lv_lload_n S.1 S.2.1 dX12_in_6 rfl (lv_at hl 0 rfl) ?_
    refine lv_lload S.1 S.2.1 dX12_in_7 (lv_at hl 2 rfl) ?_
    refine W.lcmp S.1 S.2.1 dX12_in_9 ?_
    refine lv_if_gt (tgt := 17) S.1 S.2.1 dX12_in_10 (by decide) (fun c2 => ?_) (fun c2 => ?_)
    · have c2 : hi < v := lgc_gt.mp c2
      refine lv_iconst (v := 0) S.1 S.2.1 dX12_in_17 (by decide) ?_
      have hf : (f_X12_in v lo hi) = false := (if_neg c1).trans (if_pos c2)
      exact g_zretR S hr hlk hS rfl (by rw [hf] <;> rfl) dX12_in_18
    · have c2 : ¬ (hi < v) := fun h => c2 (lgc_gt.mpr h)
      refine lv_iconst (v := 1) S.1 S.2.1 dX12_in_13 (by decide) ?_
      refine lv_goto (tgt := 18) S.1 S.2.1 dX12_in_14 (by decide) ?_
      have hf : (f_X12_in v lo hi) = true := (if_neg c1).trans (if_neg c2)
      exact g_zretR S hr hlk hS rfl (by rw [hf] <;> rfl) dX12_in_18
def f_X12_of (mW : Nat → Int32) (p : Int32) (x : Int32) : Int32 := (mW ((9 + (11 * p)) + x).toNatClampNeg)
set_option maxHeartbeats 4000000 in
set_option maxRecDepth 100000 in
theorem c_X12_of (l : Launch) (D : va_G) (A : Nat → Prop) (w : va_W) (α : Nat → Nat) (k : Nat) (mTaped : Int32) (mErr : Int32) (mPpl : Int32) (mBts : Int32) (mUs : Int32) (mRa : Int32) (mSt : Int32) (mKi : Int32) (mWd : Int64) (mVal : Int32) (mLet : Int32) (mFin : Int32) (mNp : Int32) (mNb : Int32) (mOuts : Int32) (mWant : Int32) (mFnd : Int32) (mTape : Nat → Int32) (mNum : Nat → Int32) (mNam : Nat → Int32) (mFst : Nat → Int32) (mBnm : Nat → Int32) (mW : Nat → Int32) (mUn : Nat → Int32) (mSl : Nat → Int32) (mKp : Nat → Int32) (mnNum : Nat → Int32) (mnNam : Nat → Int32) (mnBo : Nat → Int32) (mnBn : Nat → Int32) (p : Int32) (x : Int32) (hB0 : Blk w k (cM D α k mTaped mErr mPpl mBts mUs mRa mSt mKi mWd mVal mLet mFin mNp mNb mOuts mWant mFnd mTape mNum mNam mFst mBnm mW mUn mSl mKp mnNum mnNam mnBo mnBn)) (hy0 : vp_in p 20) (hy1 : vp_in x 11) : Met l yX12_of (ws_ yX12_of cX12_of 3 (some .int)) ({ frames := 0, cells := 0, slots := 0, locals := 0 }) (gPre D A [.ref (α (k)), .int p, .int x] w) (gR (some (.int (f_X12_of mW p x)))) 0 0 A := by
  refine g_met [(0, .ref (α (k))), (1, .int p), (2, .int x)] (plainFor_of_name (by decide)) (Nat.le_of_ble_eq_true rfl) rfl (fun pg en s mi ar below me co ls S hK hP hD hE hS hr hlk hnm hl => ?_)
  refine lv_aload_n S.1 S.2.1 dX12_of_0 rfl (lv_at hl 0 rfl) ?_
  refine g_get (v := .ref (α (k + 6))) S hK hP (hB0 0 _ rfl) rfl inX12 9 (by decide) qw1383 rfl dX12_of_1 ?_
  refine lv_bipush (v := 9) S.1 S.2.1 dX12_of_4 (by decide) ?_
  refine lv_bipush (v := 11) S.1 S.2.1 dX12_of_6 (by decide) ?_
  refine lv_iload_n S.1 S.2.1 dX12_of_8 rfl (lv_at hl 1 rfl) ?_
  refine lv_imul S.1 S.2.1 dX12_of_9 ?_
  refine lv_iadd S.1 S.2.1 dX12_of_10 ?_
  refine lv_iload_n S.1 S.2.1 dX12_of_11 rfl (lv_at hl 2 rfl) ?_
  refine lv_iadd S.1 S.2.1 dX12_of_12 ?_
  refine g_iald S hK hP (hB0 6 _ rfl) (of_in hy0 hy1) dX12_of_13 ?_
  have hf : (f_X12_of mW p x) = (mW ((9 + (11 * p)) + x).toNatClampNeg) := rfl
  exact g_iretR S hr hlk hS (by rw [hf] <;> rfl) dX12_of_14
def f_X12_sets (mW : Nat → Int32) (p : Int32) (x : Int32) (v : Int32) : (Nat → Int32) := (upd mW ((9 + (11 * p)) + x).toNatClampNeg v)
set_option maxHeartbeats 4000000 in
set_option maxRecDepth 100000 in
theorem c_X12_sets (l : Launch) (D : va_G) (A : Nat → Prop) (w : va_W) (α : Nat → Nat) (k : Nat) (mTaped : Int32) (mErr : Int32) (mPpl : Int32) (mBts : Int32) (mUs : Int32) (mRa : Int32) (mSt : Int32) (mKi : Int32) (mWd : Int64) (mVal : Int32) (mLet : Int32) (mFin : Int32) (mNp : Int32) (mNb : Int32) (mOuts : Int32) (mWant : Int32) (mFnd : Int32) (mTape : Nat → Int32) (mNum : Nat → Int32) (mNam : Nat → Int32) (mFst : Nat → Int32) (mBnm : Nat → Int32) (mW : Nat → Int32) (mUn : Nat → Int32) (mSl : Nat → Int32) (mKp : Nat → Int32) (mnNum : Nat → Int32) (mnNam : Nat → Int32) (mnBo : Nat → Int32) (mnBn : Nat → Int32) (p : Int32) (x : Int32) (v : Int32) (hB0 : Blk w k (cM D α k mTaped mErr mPpl mBts mUs mRa mSt mKi mWd mVal mLet mFin mNp mNb mOuts mWant mFnd mTape mNum mNam mFst mBnm mW mUn mSl mKp mnNum mnNam mnBo mnBn)) (hy0 : vp_in p 20) (hy1 : vp_in x 11) : Met l yX12_sets (ws_ yX12_sets cX12_sets 4 none) ({ frames := 0, cells := 0, slots := 0, locals := 0 }) (gPre D A [.ref (α (k)), .int p, .int x, .int v] w) (gQ D A none (fun w1 => Blk w1 k (cM D α k mTaped mErr mPpl mBts mUs mRa mSt mKi mWd mVal mLet mFin mNp mNb mOuts mWant mFnd mTape mNum mNam mFst mBnm (f_X12_sets mW p x v) mUn mSl mKp mnNum mnNam mnBo mnBn) ∧ Same w w1 k 14)) 0 0 A := by
  refine g_met [(0, .ref (α (k))), (1, .int p), (2, .int x), (3, .int v)] (plainFor_of_name (by decide)) (Nat.le_of_ble_eq_true rfl) rfl (fun pg en s mi ar below me co ls S hK hP hD hE hS hr hlk hnm hl => ?_)
  have hF : Same w w k 14 := Same.rf
  refine lv_aload_n S.1 S.2.1 dX12_sets_0 rfl (lv_at hl 0 rfl) ?_
  refine g_get (v := .ref (α (k + 6))) S hK hP (hB0 0 _ rfl) rfl inX12 9 (by decide) qw1383 rfl dX12_sets_1 ?_
  refine lv_bipush (v := 9) S.1 S.2.1 dX12_sets_4 (by decide) ?_
  refine lv_bipush (v := 11) S.1 S.2.1 dX12_sets_6 (by decide) ?_
  refine lv_iload_n S.1 S.2.1 dX12_sets_8 rfl (lv_at hl 1 rfl) ?_
  refine lv_imul S.1 S.2.1 dX12_sets_9 ?_
  refine lv_iadd S.1 S.2.1 dX12_sets_10 ?_
  refine lv_iload_n S.1 S.2.1 dX12_sets_11 rfl (lv_at hl 2 rfl) ?_
  refine lv_iadd S.1 S.2.1 dX12_sets_12 ?_
  refine lv_iload_n S.1 S.2.1 dX12_sets_13 rfl (lv_at hl 3 rfl) ?_
  refine g_iast S hK hP hD hS (hB0 6 _ rfl) (of_in hy0 hy1) dX12_sets_14 (fun w1 H locs hw hP hD hS => ?_)
  have hF := Same.set hF 6 hw (by decide)
  have hB0 : Blk w1 k (cM D α k mTaped mErr mPpl mBts mUs mRa mSt mKi mWd mVal mLet mFin mNp mNb mOuts mWant mFnd mTape mNum mNam mFst mBnm (upd mW ((9 + (11 * p)) + x).toNatClampNeg v) mUn mSl mKp mnNum mnNam mnBo mnBn) := hB0.set 6 hw (Nat.le_of_ble_eq_true rfl) rfl
  have hf : (f_X12_sets mW p x v) = (upd mW ((9 + (11 * p)) + x).toNatClampNeg v) := rfl
  exact g_vret S hr hlk hP hD hS (rfl) (⟨by rw [hf]; exact hB0, hF⟩) dX12_sets_15
def f_X12_ofBoat (mW : Nat → Int32) (b : Int32) (x : Int32) : Int32 := (mW ((229 + (3 * b)) + x).toNatClampNeg)
set_option maxHeartbeats 4000000 in
set_option maxRecDepth 100000 in
theorem c_X12_ofBoat (l : Launch) (D : va_G) (A : Nat → Prop) (w : va_W) (α : Nat → Nat) (k : Nat) (mTaped : Int32) (mErr : Int32) (mPpl : Int32) (mBts : Int32) (mUs : Int32) (mRa : Int32) (mSt : Int32) (mKi : Int32) (mWd : Int64) (mVal : Int32) (mLet : Int32) (mFin : Int32) (mNp : Int32) (mNb : Int32) (mOuts : Int32) (mWant : Int32) (mFnd : Int32) (mTape : Nat → Int32) (mNum : Nat → Int32) (mNam : Nat → Int32) (mFst : Nat → Int32) (mBnm : Nat → Int32) (mW : Nat → Int32) (mUn : Nat → Int32) (mSl : Nat → Int32) (mKp : Nat → Int32) (mnNum : Nat → Int32) (mnNam : Nat → Int32) (mnBo : Nat → Int32) (mnBn : Nat → Int32) (b : Int32) (x : Int32) (hB0 : Blk w k (cM D α k mTaped mErr mPpl mBts mUs mRa mSt mKi mWd mVal mLet mFin mNp mNb mOuts mWant mFnd mTape mNum mNam mFst mBnm mW mUn mSl mKp mnNum mnNam mnBo mnBn)) (hy0 : vp_in b 6) (hy1 : vp_in x 3) : Met l yX12_ofBoat (ws_ yX12_ofBoat cX12_ofBoat 3 (some .int)) ({ frames := 0, cells := 0, slots := 0, locals := 0 }) (gPre D A [.ref (α (k)), .int b, .int x] w) (gR (some (.int (f_X12_ofBoat mW b x)))) 0 0 A := by
  refine g_met [(0, .ref (α (k))), (1, .int b), (2, .int x)] (plainFor_of_name (by decide)) (Nat.le_of_ble_eq_true rfl) rfl (fun pg en s mi ar below me co ls S hK hP hD hE hS hr hlk hnm hl => ?_)
  refine lv_aload_n S.1 S.2.1 dX12_ofBoat_0 rfl (lv_at hl 0 rfl) ?_
  refine g_get (v := .ref (α (k + 6))) S hK hP (hB0 0 _ rfl) rfl inX12 9 (by decide) qw1383 rfl dX12_ofBoat_1 ?_
  refine lv_sipush (v := 229) S.1 S.2.1 dX12_ofBoat_4 (by decide) ?_
  refine lv_iconst (v := 3) S.1 S.2.1 dX12_ofBoat_7 (by decide) ?_
  refine lv_iload_n S.1 S.2.1 dX12_ofBoat_8 rfl (lv_at hl 1 rfl) ?_
  refine lv_imul S.1 S.2.1 dX12_ofBoat_9 ?_
  refine lv_iadd S.1 S.2.1 dX12_ofBoat_10 ?_
  refine lv_iload_n S.1 S.2.1 dX12_ofBoat_11 rfl (lv_at hl 2 rfl) ?_
  refine lv_iadd S.1 S.2.1 dX12_ofBoat_12 ?_
  refine g_iald S hK hP (hB0 6 _ rfl) (ofB_in hy0 hy1) dX12_ofBoat_13 ?_
  have hf : (f_X12_ofBoat mW b x) = (mW ((229 + (3 * b)) + x).toNatClampNeg) := rfl
  exact g_iretR S hr hlk hS (by rw [hf] <;> rfl) dX12_ofBoat_14
def f_X12_setsBoat (mW : Nat → Int32) (b : Int32) (x : Int32) (v : Int32) : (Nat → Int32) := (upd mW ((229 + (3 * b)) + x).toNatClampNeg v)
set_option maxHeartbeats 4000000 in
set_option maxRecDepth 100000 in
theorem c_X12_setsBoat (l : Launch) (D : va_G) (A : Nat → Prop) (w : va_W) (α : Nat → Nat) (k : Nat) (mTaped : Int32) (mErr : Int32) (mPpl : Int32) (mBts : Int32) (mUs : Int32) (mRa : Int32) (mSt : Int32) (mKi : Int32) (mWd : Int64) (mVal : Int32) (mLet : Int32) (mFin : Int32) (mNp : Int32) (mNb : Int32) (mOuts : Int32) (mWant : Int32) (mFnd : Int32) (mTape : Nat → Int32) (mNum : Nat → Int32) (mNam : Nat → Int32) (mFst : Nat → Int32) (mBnm : Nat → Int32) (mW : Nat → Int32) (mUn : Nat → Int32) (mSl : Nat → Int32) (mKp : Nat → Int32) (mnNum : Nat → Int32) (mnNam : Nat → Int32) (mnBo : Nat → Int32) (mnBn : Nat → Int32) (b : Int32) (x : Int32) (v : Int32) (hB0 : Blk w k (cM D α k mTaped mErr mPpl mBts mUs mRa mSt mKi mWd mVal mLet mFin mNp mNb mOuts mWant mFnd mTape mNum mNam mFst mBnm mW mUn mSl mKp mnNum mnNam mnBo mnBn)) (hy0 : vp_in b 6) (hy1 : vp_in x 3) : Met l yX12_setsBoat (ws_ yX12_setsBoat cX12_setsBoat 4 none) ({ frames := 0, cells := 0, slots := 0, locals := 0 }) (gPre D A [.ref (α (k)), .int b, .int x, .int v] w) (gQ D A none (fun w1 => Blk w1 k (cM D α k mTaped mErr mPpl mBts mUs mRa mSt mKi mWd mVal mLet mFin mNp mNb mOuts mWant mFnd mTape mNum mNam mFst mBnm (f_X12_setsBoat mW b x v) mUn mSl mKp mnNum mnNam mnBo mnBn) ∧ Same w w1 k 14)) 0 0 A := by
  refine g_met [(0, .ref (α (k))), (1, .int b), (2, .int x), (3, .int v)] (plainFor_of_name (by decide)) (Nat.le_of_ble_eq_true rfl) rfl (fun pg en s mi ar below me co ls S hK hP hD hE hS hr hlk hnm hl => ?_)
  have hF : Same w w k 14 := Same.rf
  refine lv_aload_n S.1 S.2.1 dX12_setsBoat_0 rfl (lv_at hl 0 rfl) ?_
  refine g_get (v := .ref (α (k + 6))) S hK hP (hB0 0 _ rfl) rfl inX12 9 (by decide) qw1383 rfl dX12_setsBoat_1 ?_
  refine lv_sipush (v := 229) S.1 S.2.1 dX12_setsBoat_4 (by decide) ?_
  refine lv_iconst (v := 3) S.1 S.2.1 dX12_setsBoat_7 (by decide) ?_
  refine lv_iload_n S.1 S.2.1 dX12_setsBoat_8 rfl (lv_at hl 1 rfl) ?_
  refine lv_imul S.1 S.2.1 dX12_setsBoat_9 ?_
  refine lv_iadd S.1 S.2.1 dX12_setsBoat_10 ?_
  refine lv_iload_n S.1 S.2.1 dX12_setsBoat_11 rfl (lv_at hl 2 rfl) ?_
  refine lv_iadd S.1 S.2.1 dX12_setsBoat_12 ?_
  refine lv_iload_n S.1 S.2.1 dX12_setsBoat_13 rfl (lv_at hl 3 rfl) ?_
  refine g_iast S hK hP hD hS (hB0 6 _ rfl) (ofB_in hy0 hy1) dX12_setsBoat_14 (fun w1 H locs hw hP hD hS => ?_)
  have hF := Same.set hF 6 hw (by decide)
  have hB0 : Blk w1 k (cM D α k mTaped mErr mPpl mBts mUs mRa mSt mKi mWd mVal mLet mFin mNp mNb mOuts mWant mFnd mTape mNum mNam mFst mBnm (upd mW ((229 + (3 * b)) + x).toNatClampNeg v) mUn mSl mKp mnNum mnNam mnBo mnBn) := hB0.set 6 hw (Nat.le_of_ble_eq_true rfl) rfl
  have hf : (f_X12_setsBoat mW b x v) = (upd mW ((229 + (3 * b)) + x).toNatClampNeg v) := rfl
  exact g_vret S hr hlk hP hD hS (rfl) (⟨by rw [hf]; exact hB0, hF⟩) dX12_setsBoat_15
def f_X12_isPerson (mPpl : Int32) (p : Int32) : Bool := (f_X12_in p.toInt64 0 ((mPpl - 1).toInt64))
set_option maxHeartbeats 4000000 in
set_option maxRecDepth 100000 in
theorem c_X12_isPerson (l : Launch) (D : va_G) (A : Nat → Prop) (w : va_W) (α : Nat → Nat) (k : Nat) (mTaped : Int32) (mErr : Int32) (mPpl : Int32) (mBts : Int32) (mUs : Int32) (mRa : Int32) (mSt : Int32) (mKi : Int32) (mWd : Int64) (mVal : Int32) (mLet : Int32) (mFin : Int32) (mNp : Int32) (mNb : Int32) (mOuts : Int32) (mWant : Int32) (mFnd : Int32) (mTape : Nat → Int32) (mNum : Nat → Int32) (mNam : Nat → Int32) (mFst : Nat → Int32) (mBnm : Nat → Int32) (mW : Nat → Int32) (mUn : Nat → Int32) (mSl : Nat → Int32) (mKp : Nat → Int32) (mnNum : Nat → Int32) (mnNam : Nat → Int32) (mnBo : Nat → Int32) (mnBn : Nat → Int32) (p : Int32) (hB0 : Blk w k (cM D α k mTaped mErr mPpl mBts mUs mRa mSt mKi mWd mVal mLet mFin mNp mNb mOuts mWant mFnd mTape mNum mNam mFst mBnm mW mUn mSl mKp mnNum mnNam mnBo mnBn)) : Met l yX12_isPerson (ws_ yX12_isPerson cX12_isPerson 2 (some .boolean)) ({ frames := 1, cells := 0, slots := 0, locals := 25 }) (gPre D A [.ref (α (k)), .int p] w) (gR (some (.int (b2i (f_X12_isPerson mPpl p))))) 0 0 A := by
  refine g_met [(0, .ref (α (k))), (1, .int p)] (plainFor_of_name (by decide)) (Nat.le_of_ble_eq_true rfl) rfl (fun pg en s mi ar below me co ls S hK hP hD hE hS hr hlk hnm hl => ?_)
  refine lv_iload_n S.1 S.2.1 dX12_isPerson_0 rfl (lv_at hl 1 rfl) ?_
  refine lv_i2l (v := p.toInt64) S.1 S.2.1 dX12_isPerson_1 rfl ?_
  refine lv_lconst (v := 0) S.1 S.2.1 dX12_isPerson_2 (by decide) ?_
  refine lv_aload_n S.1 S.2.1 dX12_isPerson_3 rfl (lv_at hl 0 rfl) ?_
  refine g_get (v := .int mPpl) S hK hP (hB0 0 _ rfl) rfl inX12 4 (by decide) qw1378 rfl dX12_isPerson_4 ?_
  refine lv_iconst (v := 1) S.1 S.2.1 dX12_isPerson_7 (by decide) ?_
  refine lv_isub S.1 S.2.1 dX12_isPerson_8 ?_
  refine lv_i2l (v := (mPpl - 1).toInt64) S.1 S.2.1 dX12_isPerson_9 rfl ?_
  refine g_aftR0 (st1 := [.int (b2i (f_X12_in p.toInt64 0 ((mPpl - 1).toInt64)))]) (g_St (As := [.long p.toInt64, .long 0, .long ((mPpl - 1).toInt64)]) (rest := []) S ms_X12_in qw1477 (c_X12_in l D A w α p.toInt64 0 ((mPpl - 1).toInt64)) hK hP hD hE hS rfl rfl hl.1 (Nat.le_of_ble_eq_true rfl) rfl rfl ⟨(Nat.le_of_ble_eq_true rfl), (Nat.le_of_ble_eq_true rfl)⟩ ⟨(Nat.le_of_ble_eq_true rfl), (Nat.le_of_ble_eq_true rfl)⟩ dX12_isPerson_10) hS rfl (fun locs hS => ?_)
  have hf : (f_X12_isPerson mPpl p) = (f_X12_in p.toInt64 0 ((mPpl - 1).toInt64)) := rfl
  exact g_zretR S hr hlk hS (b2i_nar _) (by rw [hf] <;> rfl) dX12_isPerson_13
def f_X12_isBoat (mBts : Int32) (b : Int32) : Bool := (f_X12_in b.toInt64 0 ((mBts - 1).toInt64))
set_option maxHeartbeats 4000000 in
set_option maxRecDepth 100000 in
theorem c_X12_isBoat (l : Launch) (D : va_G) (A : Nat → Prop) (w : va_W) (α : Nat → Nat) (k : Nat) (mTaped : Int32) (mErr : Int32) (mPpl : Int32) (mBts : Int32) (mUs : Int32) (mRa : Int32) (mSt : Int32) (mKi : Int32) (mWd : Int64) (mVal : Int32) (mLet : Int32) (mFin : Int32) (mNp : Int32) (mNb : Int32) (mOuts : Int32) (mWant : Int32) (mFnd : Int32) (mTape : Nat → Int32) (mNum : Nat → Int32) (mNam : Nat → Int32) (mFst : Nat → Int32) (mBnm : Nat → Int32) (mW : Nat → Int32) (mUn : Nat → Int32) (mSl : Nat → Int32) (mKp : Nat → Int32) (mnNum : Nat → Int32) (mnNam : Nat → Int32) (mnBo : Nat → Int32) (mnBn : Nat → Int32) (b : Int32) (hB0 : Blk w k (cM D α k mTaped mErr mPpl mBts mUs mRa mSt mKi mWd mVal mLet mFin mNp mNb mOuts mWant mFnd mTape mNum mNam mFst mBnm mW mUn mSl mKp mnNum mnNam mnBo mnBn)) : Met l yX12_isBoat (ws_ yX12_isBoat cX12_isBoat 2 (some .boolean)) ({ frames := 1, cells := 0, slots := 0, locals := 25 }) (gPre D A [.ref (α (k)), .int b] w) (gR (some (.int (b2i (f_X12_isBoat mBts b))))) 0 0 A := by
  refine g_met [(0, .ref (α (k))), (1, .int b)] (plainFor_of_name (by decide)) (Nat.le_of_ble_eq_true rfl) rfl (fun pg en s mi ar below me co ls S hK hP hD hE hS hr hlk hnm hl => ?_)
  refine lv_iload_n S.1 S.2.1 dX12_isBoat_0 rfl (lv_at hl 1 rfl) ?_
  refine lv_i2l (v := b.toInt64) S.1 S.2.1 dX12_isBoat_1 rfl ?_
  refine lv_lconst (v := 0) S.1 S.2.1 dX12_isBoat_2 (by decide) ?_
  refine lv_aload_n S.1 S.2.1 dX12_isBoat_3 rfl (lv_at hl 0 rfl) ?_
  refine g_get (v := .int mBts) S hK hP (hB0 0 _ rfl) rfl inX12 5 (by decide) qw1379 rfl dX12_isBoat_4 ?_
  refine lv_iconst (v := 1) S.1 S.2.1 dX12_isBoat_7 (by decide) ?_
  refine lv_isub S.1 S.2.1 dX12_isBoat_8 ?_
  refine lv_i2l (v := (mBts - 1).toInt64) S.1 S.2.1 dX12_isBoat_9 rfl ?_
  refine g_aftR0 (st1 := [.int (b2i (f_X12_in b.toInt64 0 ((mBts - 1).toInt64)))]) (g_St (As := [.long b.toInt64, .long 0, .long ((mBts - 1).toInt64)]) (rest := []) S ms_X12_in qw1477 (c_X12_in l D A w α b.toInt64 0 ((mBts - 1).toInt64)) hK hP hD hE hS rfl rfl hl.1 (Nat.le_of_ble_eq_true rfl) rfl rfl ⟨(Nat.le_of_ble_eq_true rfl), (Nat.le_of_ble_eq_true rfl)⟩ ⟨(Nat.le_of_ble_eq_true rfl), (Nat.le_of_ble_eq_true rfl)⟩ dX12_isBoat_10) hS rfl (fun locs hS => ?_)
  have hf : (f_X12_isBoat mBts b) = (f_X12_in b.toInt64 0 ((mBts - 1).toInt64)) := rfl
  exact g_zretR S hr hlk hS (b2i_nar _) (by rw [hf] <;> rfl) dX12_isBoat_13
def f_X12_isBasket (b : Int32) : Bool := (f_X12_in b.toInt64 0 3)
set_option maxHeartbeats 4000000 in
set_option maxRecDepth 100000 in
theorem c_X12_isBasket (l : Launch) (D : va_G) (A : Nat → Prop) (w : va_W) (α : Nat → Nat) (b : Int32) : Met l yX12_isBasket (ws_ yX12_isBasket cX12_isBasket 1 (some .boolean)) ({ frames := 1, cells := 0, slots := 0, locals := 25 }) (gPre D A [.int b] w) (gR (some (.int (b2i (f_X12_isBasket b))))) 0 0 A := by
  refine g_met [(0, .int b)] (plainFor_of_name (by decide)) (Nat.le_of_ble_eq_true rfl) rfl (fun pg en s mi ar below me co ls S hK hP hD hE hS hr hlk hnm hl => ?_)
  refine lv_iload_n S.1 S.2.1 dX12_isBasket_0 rfl (lv_at hl 0 rfl) ?_
  refine lv_i2l (v := b.toInt64) S.1 S.2.1 dX12_isBasket_1 rfl ?_
  refine lv_lconst (v := 0) S.1 S.2.1 dX12_isBasket_2 (by decide) ?_
  refine lv_ldc2 (v := 3) S.1 S.2.1 S.2.2.2.1 (S.2.2.2.2 _ qw1640) dX12_isBasket_3 ?_
  refine g_aftR0 (st1 := [.int (b2i (f_X12_in b.toInt64 0 3))]) (g_St (As := [.long b.toInt64, .long 0, .long 3]) (rest := []) S ms_X12_in qw1477 (c_X12_in l D A w α b.toInt64 0 3) hK hP hD hE hS rfl rfl hl.1 (Nat.le_of_ble_eq_true rfl) rfl rfl ⟨(Nat.le_of_ble_eq_true rfl), (Nat.le_of_ble_eq_true rfl)⟩ ⟨(Nat.le_of_ble_eq_true rfl), (Nat.le_of_ble_eq_true rfl)⟩ dX12_isBasket_6) hS rfl (fun locs hS => ?_)
  have hf : (f_X12_isBasket b) = (f_X12_in b.toInt64 0 3) := rfl
  exact g_zretR S hr hlk hS (b2i_nar _) (by rw [hf] <;> rfl) dX12_isBasket_9
def f_X12_isAtSea (mW : Nat → Int32) (p : Int32) : Bool := (if (f_X12_of mW p 1) < 0 then false else true)
set_option maxHeartbeats 4000000 in
set_option maxRecDepth 100000 in
theorem c_X12_isAtSea (l : Launch) (D : va_G) (A : Nat → Prop) (w : va_W) (α : Nat → Nat) (k : Nat) (mTaped : Int32) (mErr : Int32) (mPpl : Int32) (mBts : Int32) (mUs : Int32) (mRa : Int32) (mSt : Int32) (mKi : Int32) (mWd : Int64) (mVal : Int32) (mLet : Int32) (mFin : Int32) (mNp : Int32) (mNb : Int32) (mOuts : Int32) (mWant : Int32) (mFnd : Int32) (mTape : Nat → Int32) (mNum : Nat → Int32) (mNam : Nat → Int32) (mFst : Nat → Int32) (mBnm : Nat → Int32) (mW : Nat → Int32) (mUn : Nat → Int32) (mSl : Nat → Int32) (mKp : Nat → Int32) (mnNum : Nat → Int32) (mnNam : Nat → Int32) (mnBo : Nat → Int32) (mnBn : Nat → Int32) (p : Int32) (hB0 : Blk w k (cM D α k mTaped mErr mPpl mBts mUs mRa mSt mKi mWd mVal mLet mFin mNp mNb mOuts mWant mFnd mTape mNum mNam mFst mBnm mW mUn mSl mKp mnNum mnNam mnBo mnBn)) (hy0 : vp_in p 20) : Met l yX12_isAtSea (ws_ yX12_isAtSea cX12_isAtSea 2 (some .boolean)) ({ frames := 1, cells := 0, slots := 0, locals := 22 }) (gPre D A [.ref (α (k)), .int p] w) (gR (some (.int (b2i (f_X12_isAtSea mW p))))) 0 0 A := by
  refine g_met [(0, .ref (α (k))), (1, .int p)] (plainFor_of_name (by decide)) (Nat.le_of_ble_eq_true rfl) rfl (fun pg en s mi ar below me co ls S hK hP hD hE hS hr hlk hnm hl => ?_)
  refine lv_aload_n S.1 S.2.1 dX12_isAtSea_0 rfl (lv_at hl 0 rfl) ?_
  refine lv_iload_n S.1 S.2.1 dX12_isAtSea_1 rfl (lv_at hl 1 rfl) ?_
  refine lv_iconst (v := 1) S.1 S.2.1 dX12_isAtSea_2 (by decide) ?_
  refine g_aftR0 (st1 := [.int (f_X12_of mW p 1)]) (g_V (As := [.int p, .int 1]) (rest := []) S mi_X12_of qw1579 (c_X12_of l D A w α (k) mTaped mErr mPpl mBts mUs mRa mSt mKi mWd mVal mLet mFin mNp mNb mOuts mWant mFnd mTape mNum mNam mFst mBnm mW mUn mSl mKp mnNum mnNam mnBo mnBn p 1 hB0 (by first | assumption | exact vin_d (by decide) | exact vp_in_nI (by omega) (by decide) | decide | omega) (by first | assumption | exact vin_d (by decide) | exact vp_in_nI (by omega) (by decide) | decide | omega)) hK hP hD hE hS (hB0 0 _ rfl) rfl rfl rfl hl.1 (Nat.le_of_ble_eq_true rfl) rfl rfl ⟨(Nat.le_of_ble_eq_true rfl), (Nat.le_of_ble_eq_true rfl)⟩ ⟨(Nat.le_of_ble_eq_true rfl), (Nat.le_of_ble_eq_true rfl)⟩ dX12_isAtSea_3) hS rfl (fun locs hS => ?_)
  refine lv_if_lt (tgt := 13) S.1 S.2.1 dX12_isAtSea_6 (by decide) (fun (c1 : (f_X12_of mW p 1) < 0) => ?_) (fun (c1 : ¬ (f_X12_of mW p 1) < 0) => ?_)
  · refine lv_iconst (v := 0) S.1 S.2.1 dX12_isAtSea_13 (by decide) ?_
    have hf : (f_X12_isAtSea mW p) = false := if_pos c1
    exact g_zretR S hr hlk hS rfl (by rw [hf] <;> rfl) dX12_isAtSea_14
  · refine lv_iconst (v := 1) S.1 S.2.1 dX12_isAtSea_9 (by decide) ?_
    refine lv_goto (tgt := 14) S.1 S.2.1 dX12_isAtSea_10 (by decide) ?_
    have hf : (f_X12_isAtSea mW p) = true := if_neg c1
    exact g_zretR S hr hlk hS rfl (by rw [hf] <;> rfl) dX12_isAtSea_14
def f_X12_isOut (mW : Nat → Int32) (b : Int32) : Bool := (if (f_X12_ofBoat mW b 0) = 1 then true else false)
set_option maxHeartbeats 4000000 in
set_option maxRecDepth 100000 in
theorem c_X12_isOut (l : Launch) (D : va_G) (A : Nat → Prop) (w : va_W) (α : Nat → Nat) (k : Nat) (mTaped : Int32) (mErr : Int32) (mPpl : Int32) (mBts : Int32) (mUs : Int32) (mRa : Int32) (mSt : Int32) (mKi : Int32) (mWd : Int64) (mVal : Int32) (mLet : Int32) (mFin : Int32) (mNp : Int32) (mNb : Int32) (mOuts : Int32) (mWant : Int32) (mFnd : Int32) (mTape : Nat → Int32) (mNum : Nat → Int32) (mNam : Nat → Int32) (mFst : Nat → Int32) (mBnm : Nat → Int32) (mW : Nat → Int32) (mUn : Nat → Int32) (mSl : Nat → Int32) (mKp : Nat → Int32) (mnNum : Nat → Int32) (mnNam : Nat → Int32) (mnBo : Nat → Int32) (mnBn : Nat → Int32) (b : Int32) (hB0 : Blk w k (cM D α k mTaped mErr mPpl mBts mUs mRa mSt mKi mWd mVal mLet mFin mNp mNb mOuts mWant mFnd mTape mNum mNam mFst mBnm mW mUn mSl mKp mnNum mnNam mnBo mnBn)) (hy0 : vp_in b 6) : Met l yX12_isOut (ws_ yX12_isOut cX12_isOut 2 (some .boolean)) ({ frames := 1, cells := 0, slots := 0, locals := 22 }) (gPre D A [.ref (α (k)), .int b] w) (gR (some (.int (b2i (f_X12_isOut mW b))))) 0 0 A := by
  refine g_met [(0, .ref (α (k))), (1, .int b)] (plainFor_of_name (by decide)) (Nat.le_of_ble_eq_true rfl) rfl (fun pg en s mi ar below me co ls S hK hP hD hE hS hr hlk hnm hl => ?_)
  refine lv_aload_n S.1 S.2.1 dX12_isOut_0 rfl (lv_at hl 0 rfl) ?_
  refine lv_iload_n S.1 S.2.1 dX12_isOut_1 rfl (lv_at hl 1 rfl) ?_
  refine lv_iconst (v := 0) S.1 S.2.1 dX12_isOut_2 (by decide) ?_
  refine g_aftR0 (st1 := [.int (f_X12_ofBoat mW b 0)]) (g_V (As := [.int b, .int 0]) (rest := []) S mi_X12_ofBoat qw1571 (c_X12_ofBoat l D A w α (k) mTaped mErr mPpl mBts mUs mRa mSt mKi mWd mVal mLet mFin mNp mNb mOuts mWant mFnd mTape mNum mNam mFst mBnm mW mUn mSl mKp mnNum mnNam mnBo mnBn b 0 hB0 (by first | assumption | exact vin_d (by decide) | exact vp_in_nI (by omega) (by decide) | decide | omega) (by first | assumption | exact vin_d (by decide) | exact vp_in_nI (by omega) (by decide) | decide | omega)) hK hP hD hE hS (hB0 0 _ rfl) rfl rfl rfl hl.1 (Nat.le_of_ble_eq_true rfl) rfl rfl ⟨(Nat.le_of_ble_eq_true rfl), (Nat.le_of_ble_eq_true rfl)⟩ ⟨(Nat.le_of_ble_eq_true rfl), (Nat.le_of_ble_eq_true rfl)⟩ dX12_isOut_3) hS rfl (fun locs hS => ?_)
  refine lv_iconst (v := 1) S.1 S.2.1 dX12_isOut_6 (by decide) ?_
  refine lv_icmp_ne (tgt := 14) S.1 S.2.1 dX12_isOut_7 (by decide) (fun (c1 : ¬ (f_X12_ofBoat mW b 0) = 1) => ?_) (fun (c1 : (f_X12_ofBoat mW b 0) = 1) => ?_)
  · refine lv_iconst (v := 0) S.1 S.2.1 dX12_isOut_14 (by decide) ?_
    have hf : (f_X12_isOut mW b) = false := if_neg c1
    exact g_zretR S hr hlk hS rfl (by rw [hf] <;> rfl) dX12_isOut_15
  · refine lv_iconst (v := 1) S.1 S.2.1 dX12_isOut_10 (by decide) ?_
    refine lv_goto (tgt := 15) S.1 S.2.1 dX12_isOut_11 (by decide) ?_
    have hf : (f_X12_isOut mW b) = true := if_pos c1
    exact g_zretR S hr hlk hS rfl (by rw [hf] <;> rfl) dX12_isOut_15
def f_X12_isOpen (mW : Nat → Int32) : Bool := (if (mW 2) = 1 then true else false)
set_option maxHeartbeats 4000000 in
set_option maxRecDepth 100000 in
theorem c_X12_isOpen (l : Launch) (D : va_G) (A : Nat → Prop) (w : va_W) (α : Nat → Nat) (k : Nat) (mTaped : Int32) (mErr : Int32) (mPpl : Int32) (mBts : Int32) (mUs : Int32) (mRa : Int32) (mSt : Int32) (mKi : Int32) (mWd : Int64) (mVal : Int32) (mLet : Int32) (mFin : Int32) (mNp : Int32) (mNb : Int32) (mOuts : Int32) (mWant : Int32) (mFnd : Int32) (mTape : Nat → Int32) (mNum : Nat → Int32) (mNam : Nat → Int32) (mFst : Nat → Int32) (mBnm : Nat → Int32) (mW : Nat → Int32) (mUn : Nat → Int32) (mSl : Nat → Int32) (mKp : Nat → Int32) (mnNum : Nat → Int32) (mnNam : Nat → Int32) (mnBo : Nat → Int32) (mnBn : Nat → Int32) (hB0 : Blk w k (cM D α k mTaped mErr mPpl mBts mUs mRa mSt mKi mWd mVal mLet mFin mNp mNb mOuts mWant mFnd mTape mNum mNam mFst mBnm mW mUn mSl mKp mnNum mnNam mnBo mnBn)) : Met l yX12_isOpen (ws_ yX12_isOpen cX12_isOpen 1 (some .boolean)) ({ frames := 0, cells := 0, slots := 0, locals := 0 }) (gPre D A [.ref (α (k))] w) (gR (some (.int (b2i (f_X12_isOpen mW))))) 0 0 A := by
  refine g_met [(0, .ref (α (k)))] (plainFor_of_name (by decide)) (Nat.le_of_ble_eq_true rfl) rfl (fun pg en s mi ar below me co ls S hK hP hD hE hS hr hlk hnm hl => ?_)
  refine lv_aload_n S.1 S.2.1 dX12_isOpen_0 rfl (lv_at hl 0 rfl) ?_
  refine g_get (v := .ref (α (k + 6))) S hK hP (hB0 0 _ rfl) rfl inX12 9 (by decide) qw1383 rfl dX12_isOpen_1 ?_
  refine lv_iconst (v := 2) S.1 S.2.1 dX12_isOpen_4 (by decide) ?_
  refine g_iald S hK hP (hB0 6 _ rfl) (by first | assumption | exact vin_d (by decide) | exact vp_in_nI (by omega) (by decide) | decide) dX12_isOpen_5 ?_
  refine lv_iconst (v := 1) S.1 S.2.1 dX12_isOpen_6 (by decide) ?_
  refine lv_icmp_ne (tgt := 14) S.1 S.2.1 dX12_isOpen_7 (by decide) (fun (c1 : ¬ (mW 2) = 1) => ?_) (fun (c1 : (mW 2) = 1) => ?_)
  · refine lv_iconst (v := 0) S.1 S.2.1 dX12_isOpen_14 (by decide) ?_
    have hf : (f_X12_isOpen mW) = false := if_neg c1
    exact g_zretR S hr hlk hS rfl (by rw [hf] <;> rfl) dX12_isOpen_15
  · refine lv_iconst (v := 1) S.1 S.2.1 dX12_isOpen_10 (by decide) ?_
    refine lv_goto (tgt := 15) S.1 S.2.1 dX12_isOpen_11 (by decide) ?_
    have hf : (f_X12_isOpen mW) = true := if_pos c1
    exact g_zretR S hr hlk hS rfl (by rw [hf] <;> rfl) dX12_isOpen_15
def f_X12_isLaidNoMore (mW : Nat → Int32) (p : Int32) : (Nat → Int32) := (f_X12_sets (f_X12_sets (f_X12_sets mW p 8 (-2)) p 9 (-2)) p 10 0)
set_option maxHeartbeats 4000000 in
set_option maxRecDepth 100000 in
theorem c_X12_isLaidNoMore (l : Launch) (D : va_G) (A : Nat → Prop) (w : va_W) (α : Nat → Nat) (k : Nat) (mTaped : Int32) (mErr : Int32) (mPpl : Int32) (mBts : Int32) (mUs : Int32) (mRa : Int32) (mSt : Int32) (mKi : Int32) (mWd : Int64) (mVal : Int32) (mLet : Int32) (mFin : Int32) (mNp : Int32) (mNb : Int32) (mOuts : Int32) (mWant : Int32) (mFnd : Int32) (mTape : Nat → Int32) (mNum : Nat → Int32) (mNam : Nat → Int32) (mFst : Nat → Int32) (mBnm : Nat → Int32) (mW : Nat → Int32) (mUn : Nat → Int32) (mSl : Nat → Int32) (mKp : Nat → Int32) (mnNum : Nat → Int32) (mnNam : Nat → Int32) (mnBo : Nat → Int32) (mnBn : Nat → Int32) (p : Int32) (hB0 : Blk w k (cM D α k mTaped mErr mPpl mBts mUs mRa mSt mKi mWd mVal mLet mFin mNp mNb mOuts mWant mFnd mTape mNum mNam mFst mBnm mW mUn mSl mKp mnNum mnNam mnBo mnBn)) (hy0 : vp_in p 20) : Met l yX12_isLaidNoMore (ws_ yX12_isLaidNoMore cX12_isLaidNoMore 2 none) ({ frames := 1, cells := 0, slots := 0, locals := 23 }) (gPre D A [.ref (α (k)), .int p] w) (gQ D A none (fun w1 => Blk w1 k (cM D α k mTaped mErr mPpl mBts mUs mRa mSt mKi mWd mVal mLet mFin mNp mNb mOuts mWant mFnd mTape mNum mNam mFst mBnm (f_X12_isLaidNoMore mW p) mUn mSl mKp mnNum mnNam mnBo mnBn) ∧ Same w w1 k 14)) 0 0 A := by
  refine g_met [(0, .ref (α (k))), (1, .int p)] (plainFor_of_name (by decide)) (Nat.le_of_ble_eq_true rfl) rfl (fun pg en s mi ar below me co ls S hK hP hD hE hS hr hlk hnm hl => ?_)
  have hF : Same w w k 14 := Same.rf
  refine lv_aload_n S.1 S.2.1 dX12_isLaidNoMore_0 rfl (lv_at hl 0 rfl) ?_
  refine lv_iload_n S.1 S.2.1 dX12_isLaidNoMore_1 rfl (lv_at hl 1 rfl) ?_
  refine lv_bipush (v := 8) S.1 S.2.1 dX12_isLaidNoMore_2 (by decide) ?_
  refine lv_bipush (v := (-2)) S.1 S.2.1 dX12_isLaidNoMore_4 (by decide) ?_
  refine g_aft0 (st1 := []) (g_V (As := [.int p, .int 8, .int (-2)]) (rest := []) S mi_X12_sets qw1362 (c_X12_sets l D A w α (k) mTaped mErr mPpl mBts mUs mRa mSt mKi mWd mVal mLet mFin mNp mNb mOuts mWant mFnd mTape mNum mNam mFst mBnm mW mUn mSl mKp mnNum mnNam mnBo mnBn p 8 (-2) hB0 (by first | assumption | exact vin_d (by decide) | exact vp_in_nI (by omega) (by decide) | decide | omega) (by first | assumption | exact vin_d (by decide) | exact vp_in_nI (by omega) (by decide) | decide | omega)) hK hP hD hE hS (hB0 0 _ rfl) rfl rfl rfl hl.1 (Nat.le_of_ble_eq_true rfl) rfl rfl ⟨(Nat.le_of_ble_eq_true rfl), (Nat.le_of_ble_eq_true rfl)⟩ ⟨(Nat.le_of_ble_eq_true rfl), (Nat.le_of_ble_eq_true rfl)⟩ dX12_isLaidNoMore_6) hS rfl (fun w1 H locs hQ hP hD hS => ?_)
  have hF := hF.trans hQ.2
  have hB0 : Blk w1 k (cM D α k mTaped mErr mPpl mBts mUs mRa mSt mKi mWd mVal mLet mFin mNp mNb mOuts mWant mFnd mTape mNum mNam mFst mBnm (f_X12_sets mW p 8 (-2)) mUn mSl mKp mnNum mnNam mnBo mnBn) := hQ.1
  refine lv_aload_n S.1 S.2.1 dX12_isLaidNoMore_9 rfl (lv_at hl 0 rfl) ?_
  refine lv_iload_n S.1 S.2.1 dX12_isLaidNoMore_10 rfl (lv_at hl 1 rfl) ?_
  refine lv_bipush (v := 9) S.1 S.2.1 dX12_isLaidNoMore_11 (by decide) ?_
  refine lv_bipush (v := (-2)) S.1 S.2.1 dX12_isLaidNoMore_13 (by decide) ?_
  refine g_aft0 (st1 := []) (g_V (As := [.int p, .int 9, .int (-2)]) (rest := []) S mi_X12_sets qw1362 (c_X12_sets l D A w1 α (k) mTaped mErr mPpl mBts mUs mRa mSt mKi mWd mVal mLet mFin mNp mNb mOuts mWant mFnd mTape mNum mNam mFst mBnm (f_X12_sets mW p 8 (-2)) mUn mSl mKp mnNum mnNam mnBo mnBn p 9 (-2) hB0 (by first | assumption | exact vin_d (by decide) | exact vp_in_nI (by omega) (by decide) | decide | omega) (by first | assumption | exact vin_d (by decide) | exact vp_in_nI (by omega) (by decide) | decide | omega)) hK hP hD hE hS (hB0 0 _ rfl) rfl rfl rfl hl.1 (Nat.le_of_ble_eq_true rfl) rfl rfl ⟨(Nat.le_of_ble_eq_true rfl), (Nat.le_of_ble_eq_true rfl)⟩ ⟨(Nat.le_of_ble_eq_true rfl), (Nat.le_of_ble_eq_true rfl)⟩ dX12_isLaidNoMore_15) hS rfl (fun w2 H locs hQ hP hD hS => ?_)
  have hF := hF.trans hQ.2
  have hB0 : Blk w2 k (cM D α k mTaped mErr mPpl mBts mUs mRa mSt mKi mWd mVal mLet mFin mNp mNb mOuts mWant mFnd mTape mNum mNam mFst mBnm (f_X12_sets (f_X12_sets mW p 8 (-2)) p 9 (-2)) mUn mSl mKp mnNum mnNam mnBo mnBn) := hQ.1
  refine lv_aload_n S.1 S.2.1 dX12_isLaidNoMore_18 rfl (lv_at hl 0 rfl) ?_
  refine lv_iload_n S.1 S.2.1 dX12_isLaidNoMore_19 rfl (lv_at hl 1 rfl) ?_
  refine lv_bipush (v := 10) S.1 S.2.1 dX12_isLaidNoMore_20 (by decide) ?_
  refine lv_iconst (v := 0) S.1 S.2.1 dX12_isLaidNoMore_22 (by decide) ?_
  refine g_aft0 (st1 := []) (g_V (As := [.int p, .int 10, .int 0]) (rest := []) S mi_X12_sets qw1362 (c_X12_sets l D A w2 α (k) mTaped mErr mPpl mBts mUs mRa mSt mKi mWd mVal mLet mFin mNp mNb mOuts mWant mFnd mTape mNum mNam mFst mBnm (f_X12_sets (f_X12_sets mW p 8 (-2)) p 9 (-2)) mUn mSl mKp mnNum mnNam mnBo mnBn p 10 0 hB0 (by first | assumption | exact vin_d (by decide) | exact vp_in_nI (by omega) (by decide) | decide | omega) (by first | assumption | exact vin_d (by decide) | exact vp_in_nI (by omega) (by decide) | decide | omega)) hK hP hD hE hS (hB0 0 _ rfl) rfl rfl rfl hl.1 (Nat.le_of_ble_eq_true rfl) rfl rfl ⟨(Nat.le_of_ble_eq_true rfl), (Nat.le_of_ble_eq_true rfl)⟩ ⟨(Nat.le_of_ble_eq_true rfl), (Nat.le_of_ble_eq_true rfl)⟩ dX12_isLaidNoMore_23) hS rfl (fun w3 H locs hQ hP hD hS => ?_)
  have hF := hF.trans hQ.2
  have hB0 : Blk w3 k (cM D α k mTaped mErr mPpl mBts mUs mRa mSt mKi mWd mVal mLet mFin mNp mNb mOuts mWant mFnd mTape mNum mNam mFst mBnm (f_X12_sets (f_X12_sets (f_X12_sets mW p 8 (-2)) p 9 (-2)) p 10 0) mUn mSl mKp mnNum mnNam mnBo mnBn) := hQ.1
  have hf : (f_X12_isLaidNoMore mW p) = (f_X12_sets (f_X12_sets (f_X12_sets mW p 8 (-2)) p 9 (-2)) p 10 0) := rfl
  exact g_vret S hr hlk hP hD hS (rfl) (⟨by rw [hf]; exact hB0, hF⟩) dX12_isLaidNoMore_26
def f_X12_atHand (mW : Nat → Int32) (p : Int32) : (Nat → Int32) := (f_X12_isLaidNoMore (f_X12_sets (f_X12_sets (f_X12_sets mW p 5 0) p 6 (-2)) p 7 (-2)) p)
set_option maxHeartbeats 4000000 in
set_option maxRecDepth 100000 in
theorem c_X12_atHand (l : Launch) (D : va_G) (A : Nat → Prop) (w : va_W) (α : Nat → Nat) (k : Nat) (mTaped : Int32) (mErr : Int32) (mPpl : Int32) (mBts : Int32) (mUs : Int32) (mRa : Int32) (mSt : Int32) (mKi : Int32) (mWd : Int64) (mVal : Int32) (mLet : Int32) (mFin : Int32) (mNp : Int32) (mNb : Int32) (mOuts : Int32) (mWant : Int32) (mFnd : Int32) (mTape : Nat → Int32) (mNum : Nat → Int32) (mNam : Nat → Int32) (mFst : Nat → Int32) (mBnm : Nat → Int32) (mW : Nat → Int32) (mUn : Nat → Int32) (mSl : Nat → Int32) (mKp : Nat → Int32) (mnNum : Nat → Int32) (mnNam : Nat → Int32) (mnBo : Nat → Int32) (mnBn : Nat → Int32) (p : Int32) (hB0 : Blk w k (cM D α k mTaped mErr mPpl mBts mUs mRa mSt mKi mWd mVal mLet mFin mNp mNb mOuts mWant mFnd mTape mNum mNam mFst mBnm mW mUn mSl mKp mnNum mnNam mnBo mnBn)) (hy0 : vp_in p 20) : Met l yX12_atHand (ws_ yX12_atHand cX12_atHand 2 none) ({ frames := 2, cells := 0, slots := 0, locals := 44 }) (gPre D A [.ref (α (k)), .int p] w) (gQ D A none (fun w1 => Blk w1 k (cM D α k mTaped mErr mPpl mBts mUs mRa mSt mKi mWd mVal mLet mFin mNp mNb mOuts mWant mFnd mTape mNum mNam mFst mBnm (f_X12_atHand mW p) mUn mSl mKp mnNum mnNam mnBo mnBn) ∧ Same w w1 k 14)) 0 0 A := by
  refine g_met [(0, .ref (α (k))), (1, .int p)] (plainFor_of_name (by decide)) (Nat.le_of_ble_eq_true rfl) rfl (fun pg en s mi ar below me co ls S hK hP hD hE hS hr hlk hnm hl => ?_)
  have hF : Same w w k 14 := Same.rf
  refine lv_aload_n S.1 S.2.1 dX12_atHand_0 rfl (lv_at hl 0 rfl) ?_
  refine lv_iload_n S.1 S.2.1 dX12_atHand_1 rfl (lv_at hl 1 rfl) ?_
  refine lv_iconst (v := 5) S.1 S.2.1 dX12_atHand_2 (by decide) ?_
  refine lv_iconst (v := 0) S.1 S.2.1 dX12_atHand_3 (by decide) ?_
  refine g_aft0 (st1 := []) (g_V (As := [.int p, .int 5, .int 0]) (rest := []) S mi_X12_sets qw1362 (c_X12_sets l D A w α (k) mTaped mErr mPpl mBts mUs mRa mSt mKi mWd mVal mLet mFin mNp mNb mOuts mWant mFnd mTape mNum mNam mFst mBnm mW mUn mSl mKp mnNum mnNam mnBo mnBn p 5 0 hB0 (by first | assumption | exact vin_d (by decide) | exact vp_in_nI (by omega) (by decide) | decide | omega) (by first | assumption | exact vin_d (by decide) | exact vp_in_nI (by omega) (by decide) | decide | omega)) hK hP hD hE hS (hB0 0 _ rfl) rfl rfl rfl hl.1 (Nat.le_of_ble_eq_true rfl) rfl rfl ⟨(Nat.le_of_ble_eq_true rfl), (Nat.le_of_ble_eq_true rfl)⟩ ⟨(Nat.le_of_ble_eq_true rfl), (Nat.le_of_ble_eq_true rfl)⟩ dX12_atHand_4) hS rfl (fun w1 H locs hQ hP hD hS => ?_)
  have hF := hF.trans hQ.2
  have hB0 : Blk w1 k (cM D α k mTaped mErr mPpl mBts mUs mRa mSt mKi mWd mVal mLet mFin mNp mNb mOuts mWant mFnd mTape mNum mNam mFst mBnm (f_X12_sets mW p 5 0) mUn mSl mKp mnNum mnNam mnBo mnBn) := hQ.1
  refine lv_aload_n S.1 S.2.1 dX12_atHand_7 rfl (lv_at hl 0 rfl) ?_
  refine lv_iload_n S.1 S.2.1 dX12_atHand_8 rfl (lv_at hl 1 rfl) ?_
  refine lv_bipush (v := 6) S.1 S.2.1 dX12_atHand_9 (by decide) ?_
  refine lv_bipush (v := (-2)) S.1 S.2.1 dX12_atHand_11 (by decide) ?_
  refine g_aft0 (st1 := []) (g_V (As := [.int p, .int 6, .int (-2)]) (rest := []) S mi_X12_sets qw1362 (c_X12_sets l D A w1 α (k) mTaped mErr mPpl mBts mUs mRa mSt mKi mWd mVal mLet mFin mNp mNb mOuts mWant mFnd mTape mNum mNam mFst mBnm (f_X12_sets mW p 5 0) mUn mSl mKp mnNum mnNam mnBo mnBn p 6 (-2) hB0 (by first | assumption | exact vin_d (by decide) | exact vp_in_nI (by omega) (by decide) | decide | omega) (by first | assumption | exact vin_d (by decide) | exact vp_in_nI (by omega) (by decide) | decide | omega)) hK hP hD hE hS (hB0 0 _ rfl) rfl rfl rfl hl.1 (Nat.le_of_ble_eq_true rfl) rfl rfl ⟨(Nat.le_of_ble_eq_true rfl), (Nat.le_of_ble_eq_true rfl)⟩ ⟨(Nat.le_of_ble_eq_true rfl), (Nat.le_of_ble_eq_true rfl)⟩ dX12_atHand_13) hS rfl (fun w2 H locs hQ hP hD hS => ?_)
  have hF := hF.trans hQ.2
  have hB0 : Blk w2 k (cM D α k mTaped mErr mPpl mBts mUs mRa mSt mKi mWd mVal mLet mFin mNp mNb mOuts mWant mFnd mTape mNum mNam mFst mBnm (f_X12_sets (f_X12_sets mW p 5 0) p 6 (-2)) mUn mSl mKp mnNum mnNam mnBo mnBn) := hQ.1
  refine lv_aload_n S.1 S.2.1 dX12_atHand_16 rfl (lv_at hl 0 rfl) ?_
  refine lv_iload_n S.1 S.2.1 dX12_atHand_17 rfl (lv_at hl 1 rfl) ?_
  refine lv_bipush (v := 7) S.1 S.2.1 dX12_atHand_18 (by decide) ?_
  refine lv_bipush (v := (-2)) S.1 S.2.1 dX12_atHand_20 (by decide) ?_
  refine g_aft0 (st1 := []) (g_V (As := [.int p, .int 7, .int (-2)]) (rest := []) S mi_X12_sets qw1362 (c_X12_sets l D A w2 α (k) mTaped mErr mPpl mBts mUs mRa mSt mKi mWd mVal mLet mFin mNp mNb mOuts mWant mFnd mTape mNum mNam mFst mBnm (f_X12_sets (f_X12_sets mW p 5 0) p 6 (-2)) mUn mSl mKp mnNum mnNam mnBo mnBn p 7 (-2) hB0 (by first | assumption | exact vin_d (by decide) | exact vp_in_nI (by omega) (by decide) | decide | omega) (by first | assumption | exact vin_d (by decide) | exact vp_in_nI (by omega) (by decide) | decide | omega)) hK hP hD hE hS (hB0 0 _ rfl) rfl rfl rfl hl.1 (Nat.le_of_ble_eq_true rfl) rfl rfl ⟨(Nat.le_of_ble_eq_true rfl), (Nat.le_of_ble_eq_true rfl)⟩ ⟨(Nat.le_of_ble_eq_true rfl), (Nat.le_of_ble_eq_true rfl)⟩ dX12_atHand_22) hS rfl (fun w3 H locs hQ hP hD hS => ?_)
  have hF := hF.trans hQ.2
  have hB0 : Blk w3 k (cM D α k mTaped mErr mPpl mBts mUs mRa mSt mKi mWd mVal mLet mFin mNp mNb mOuts mWant mFnd mTape mNum mNam mFst mBnm (f_X12_sets (f_X12_sets (f_X12_sets mW p 5 0) p 6 (-2)) p 7 (-2)) mUn mSl mKp mnNum mnNam mnBo mnBn) := hQ.1
  refine lv_aload_n S.1 S.2.1 dX12_atHand_25 rfl (lv_at hl 0 rfl) ?_
  refine lv_iload_n S.1 S.2.1 dX12_atHand_26 rfl (lv_at hl 1 rfl) ?_
  refine g_aft0 (st1 := []) (g_V (As := [.int p]) (rest := []) S mi_X12_isLaidNoMore qw1370 (c_X12_isLaidNoMore l D A w3 α (k) mTaped mErr mPpl mBts mUs mRa mSt mKi mWd mVal mLet mFin mNp mNb mOuts mWant mFnd mTape mNum mNam mFst mBnm (f_X12_sets (f_X12_sets (f_X12_sets mW p 5 0) p 6 (-2)) p 7 (-2)) mUn mSl mKp mnNum mnNam mnBo mnBn p hB0 (by first | assumption | exact vin_d (by decide) | exact vp_in_nI (by omega) (by decide) | decide | omega)) hK hP hD hE hS (hB0 0 _ rfl) rfl rfl rfl hl.1 (Nat.le_of_ble_eq_true rfl) rfl rfl ⟨(Nat.le_of_ble_eq_true rfl), (Nat.le_of_ble_eq_true rfl)⟩ ⟨(Nat.le_of_ble_eq_true rfl), (Nat.le_of_ble_eq_true rfl)⟩ dX12_atHand_27) hS rfl (fun w4 H locs hQ hP hD hS => ?_)
  have hF := hF.trans hQ.2
  have hB0 : Blk w4 k (cM D α k mTaped mErr mPpl mBts mUs mRa mSt mKi mWd mVal mLet mFin mNp mNb mOuts mWant mFnd mTape mNum mNam mFst mBnm (f_X12_isLaidNoMore (f_X12_sets (f_X12_sets (f_X12_sets mW p 5 0) p 6 (-2)) p 7 (-2)) p) mUn mSl mKp mnNum mnNam mnBo mnBn) := hQ.1
  have hf : (f_X12_atHand mW p) = (f_X12_isLaidNoMore (f_X12_sets (f_X12_sets (f_X12_sets mW p 5 0) p 6 (-2)) p 7 (-2)) p) := rfl
  exact g_vret S hr hlk hP hD hS (rfl) (⟨by rw [hf]; exact hB0, hF⟩) dX12_atHand_30
def f_X12_isLaid (mW : Nat → Int32) (p : Int32) : Bool := (if (f_X12_of mW p 5) < 2 then false else true)
set_option maxHeartbeats 4000000 in
set_option maxRecDepth 100000 in
theorem c_X12_isLaid (l : Launch) (D : va_G) (A : Nat → Prop) (w : va_W) (α : Nat → Nat) (k : Nat) (mTaped : Int32) (mErr : Int32) (mPpl : Int32) (mBts : Int32) (mUs : Int32) (mRa : Int32) (mSt : Int32) (mKi : Int32) (mWd : Int64) (mVal : Int32) (mLet : Int32) (mFin : Int32) (mNp : Int32) (mNb : Int32) (mOuts : Int32) (mWant : Int32) (mFnd : Int32) (mTape : Nat → Int32) (mNum : Nat → Int32) (mNam : Nat → Int32) (mFst : Nat → Int32) (mBnm : Nat → Int32) (mW : Nat → Int32) (mUn : Nat → Int32) (mSl : Nat → Int32) (mKp : Nat → Int32) (mnNum : Nat → Int32) (mnNam : Nat → Int32) (mnBo : Nat → Int32) (mnBn : Nat → Int32) (p : Int32) (hB0 : Blk w k (cM D α k mTaped mErr mPpl mBts mUs mRa mSt mKi mWd mVal mLet mFin mNp mNb mOuts mWant mFnd mTape mNum mNam mFst mBnm mW mUn mSl mKp mnNum mnNam mnBo mnBn)) (hy0 : vp_in p 20) : Met l yX12_isLaid (ws_ yX12_isLaid cX12_isLaid 2 (some .boolean)) ({ frames := 1, cells := 0, slots := 0, locals := 22 }) (gPre D A [.ref (α (k)), .int p] w) (gR (some (.int (b2i (f_X12_isLaid mW p))))) 0 0 A := by
  refine g_met [(0, .ref (α (k))), (1, .int p)] (plainFor_of_name (by decide)) (Nat.le_of_ble_eq_true rfl) rfl (fun pg en s mi ar below me co ls S hK hP hD hE hS hr hlk hnm hl => ?_)
  refine lv_aload_n S.1 S.2.1 dX12_isLaid_0 rfl (lv_at hl 0 rfl) ?_
  refine lv_iload_n S.1 S.2.1 dX12_isLaid_1 rfl (lv_at hl 1 rfl) ?_
  refine lv_iconst (v := 5) S.1 S.2.1 dX12_isLaid_2 (by decide) ?_
  refine g_aftR0 (st1 := [.int (f_X12_of mW p 5)]) (g_V (As := [.int p, .int 5]) (rest := []) S mi_X12_of qw1579 (c_X12_of l D A w α (k) mTaped mErr mPpl mBts mUs mRa mSt mKi mWd mVal mLet mFin mNp mNb mOuts mWant mFnd mTape mNum mNam mFst mBnm mW mUn mSl mKp mnNum mnNam mnBo mnBn p 5 hB0 (by first | assumption | exact vin_d (by decide) | exact vp_in_nI (by omega) (by decide) | decide | omega) (by first | assumption | exact vin_d (by decide) | exact vp_in_nI (by omega) (by decide) | decide | omega)) hK hP hD hE hS (hB0 0 _ rfl) rfl rfl rfl hl.1 (Nat.le_of_ble_eq_true rfl) rfl rfl ⟨(Nat.le_of_ble_eq_true rfl), (Nat.le_of_ble_eq_true rfl)⟩ ⟨(Nat.le_of_ble_eq_true rfl), (Nat.le_of_ble_eq_true rfl)⟩ dX12_isLaid_3) hS rfl (fun locs hS => ?_)
  refine lv_iconst (v := 2) S.1 S.2.1 dX12_isLaid_6 (by decide) ?_
  refine lv_icmp_lt (tgt := 14) S.1 S.2.1 dX12_isLaid_7 (by decide) (fun (c1 : (f_X12_of mW p 5) < 2) => ?_) (fun (c1 : ¬ (f_X12_of mW p 5) < 2) => ?_)
  · refine lv_iconst (v := 0) S.1 S.2.1 dX12_isLaid_14 (by decide) ?_
    have hf : (f_X12_isLaid mW p) = false := if_pos c1
    exact g_zretR S hr hlk hS rfl (by rw [hf] <;> rfl) dX12_isLaid_15
  · refine lv_iconst (v := 1) S.1 S.2.1 dX12_isLaid_10 (by decide) ?_
    refine lv_goto (tgt := 15) S.1 S.2.1 dX12_isLaid_11 (by decide) ?_
    have hf : (f_X12_isLaid mW p) = true := if_neg c1
    exact g_zretR S hr hlk hS rfl (by rw [hf] <;> rfl) dX12_isLaid_15
def L_X12_carriedBy_4 (mW : Nat → Int32) (p : Int32) : Nat → Int32 := iter_ (fun n sn => (if (f_X12_of mW (nI n) 5) = 1 then (if (f_X12_of mW (nI n) 6) = p then (sn ||| ((1 : Int32) <<< ((nI n) &&& 31))) else (sn ||| 0)) else (sn ||| 0))) 0
def f_X12_carriedBy (mPpl : Int32) (mW : Nat → Int32) (p : Int32) : Int32 := (L_X12_carriedBy_4 mW p mPpl.toNatClampNeg)
set_option maxHeartbeats 4000000 in
set_option maxRecDepth 100000 in
theorem c_X12_carriedBy (l : Launch) (D : va_G) (A : Nat → Prop) (w : va_W) (α : Nat → Nat) (k : Nat) (mTaped : Int32) (mErr : Int32) (mPpl : Int32) (mBts : Int32) (mUs : Int32) (mRa : Int32) (mSt : Int32) (mKi : Int32) (mWd : Int64) (mVal : Int32) (mLet : Int32) (mFin : Int32) (mNp : Int32) (mNb : Int32) (mOuts : Int32) (mWant : Int32) (mFnd : Int32) (mTape : Nat → Int32) (mNum : Nat → Int32) (mNam : Nat → Int32) (mFst : Nat → Int32) (mBnm : Nat → Int32) (mW : Nat → Int32) (mUn : Nat → Int32) (mSl : Nat → Int32) (mKp : Nat → Int32) (mnNum : Nat → Int32) (mnNam : Nat → Int32) (mnBo : Nat → Int32) (mnBn : Nat → Int32) (p : Int32) (hB0 : Blk w k (cM D α k mTaped mErr mPpl mBts mUs mRa mSt mKi mWd mVal mLet mFin mNp mNb mOuts mWant mFnd mTape mNum mNam mFst mBnm mW mUn mSl mKp mnNum mnNam mnBo mnBn)) (hy0 : vp_in mPpl 21) : Met l yX12_carriedBy (ws_ yX12_carriedBy cX12_carriedBy 4 (some .int)) ({ frames := 1, cells := 0, slots := 0, locals := 22 }) (gPre D A [.ref (α (k)), .int p] w) (gR (some (.int (f_X12_carriedBy mPpl mW p)))) 0 0 A := by
  refine g_met [(0, .ref (α (k))), (1, .int p)] (plainFor_of_name (by decide)) (Nat.le_of_ble_eq_true rfl) rfl (fun pg en s mi ar below me co ls S hK hP hD hE hS hr hlk hnm hl => ?_)
  have hpn := vin_lt (show vp_in mPpl 21 by assumption)
  refine lv_iconst (v := 0) S.1 S.2.1 dX12_carriedBy_0 (by decide) ?_
  refine lv_istore_n (lv' := [(2, .int 0), (0, .ref (α (k))), (1, .int p)]) S.1 S.2.1 dX12_carriedBy_1 rfl hl (by decide) rfl (fun ls hl => ?_)
  refine lv_iconst (v := 0) S.1 S.2.1 dX12_carriedBy_2 (by decide) ?_
  refine lv_istore_n (lv' := [(3, .int 0), (2, .int 0), (0, .ref (α (k))), (1, .int p)]) S.1 S.2.1 dX12_carriedBy_3 rfl hl (by decide) rfl (fun ls hl => ?_)
  have lp4 : ∀ (j n : Nat), n + j = mPpl.toNatClampNeg → ∀ (locs : List Loc) (ls : Array Slot), va_S A s.heap s.heap locs → lv_has ls 4 [(3, .int (nI n)), (2, .int (L_X12_carriedBy_4 mW p n)), (0, .ref (α (k))), (1, .int p)] → W pg l en ({ frames := 1, cells := 0, slots := 0, locals := 22 } : Room) s mi ar below me co s.heap locs 0 0 (MQ below (gR (some (.int (f_X12_carriedBy mPpl mW p)))) ar s 0 0 A) (F0 mi 4 ls []) := by
    intro j
    induction j with
    | zero =>
      intro n hn locs ls hS hl
      have hn : mPpl.toNatClampNeg = n := hn.symm
      subst hn
      refine lv_iload_n S.1 S.2.1 dX12_carriedBy_4 rfl (lv_at hl 0 rfl) ?_
      refine lv_aload_n S.1 S.2.1 dX12_carriedBy_5 rfl (lv_at hl 2 rfl) ?_
      refine g_get (v := .int mPpl) S hK hP (hB0 0 _ rfl) rfl inX12 4 (by decide) qw1378 rfl dX12_carriedBy_6 ?_
      refine lv_icmp_ge (tgt := 49) S.1 S.2.1 dX12_carriedBy_9 (by decide) (fun (c1 : mPpl ≤ (nI mPpl.toNatClampNeg)) => ?_) (fun (c1 : ¬ mPpl ≤ (nI mPpl.toNatClampNeg)) => absurd c1 (lp_out (s := 0) ((Nat.max_eq_left (Nat.zero_le _)).symm)))
      refine lv_iload_n S.1 S.2.1 dX12_carriedBy_49 rfl (lv_at hl 1 rfl) ?_
      have hf : (f_X12_carriedBy mPpl mW p) = (L_X12_carriedBy_4 mW p mPpl.toNatClampNeg) := rfl
      exact g_iretR S hr hlk hS (by rw [hf] <;> rfl) dX12_carriedBy_50
    | succ j ih =>
      intro n hn locs ls hS hl
      refine lv_iload_n S.1 S.2.1 dX12_carriedBy_4 rfl (lv_at hl 0 rfl) ?_
      refine lv_aload_n S.1 S.2.1 dX12_carriedBy_5 rfl (lv_at hl 2 rfl) ?_
      refine g_get (v := .int mPpl) S hK hP (hB0 0 _ rfl) rfl inX12 4 (by decide) qw1378 rfl dX12_carriedBy_6 ?_
      refine lv_icmp_ge (tgt := 49) S.1 S.2.1 dX12_carriedBy_9 (by decide) (fun (c2 : mPpl ≤ (nI n)) => absurd c2 (lp_in (s := 0) (rfl) hn)) (fun (c2 : ¬ mPpl ≤ (nI n)) => ?_)
      refine lv_iload_n S.1 S.2.1 dX12_carriedBy_12 rfl (lv_at hl 1 rfl) ?_
      refine lv_aload_n S.1 S.2.1 dX12_carriedBy_13 rfl (lv_at hl 2 rfl) ?_
      refine lv_iload_n S.1 S.2.1 dX12_carriedBy_14 rfl (lv_at hl 0 rfl) ?_
      refine lv_iconst (v := 5) S.1 S.2.1 dX12_carriedBy_15 (by decide) ?_
      refine g_aftR0 (st1 := [.int (f_X12_of mW (nI n) 5), .int (L_X12_carriedBy_4 mW p n)]) (g_V (As := [.int (nI n), .int 5]) (rest := [.int (L_X12_carriedBy_4 mW p n)]) S mi_X12_of qw1579 (c_X12_of l D A w α (k) mTaped mErr mPpl mBts mUs mRa mSt mKi mWd mVal mLet mFin mNp mNb mOuts mWant mFnd mTape mNum mNam mFst mBnm mW mUn mSl mKp mnNum mnNam mnBo mnBn (nI n) 5 hB0 (by first | assumption | exact vin_d (by decide) | exact vp_in_nI (by omega) (by decide) | decide | omega) (by first | assumption | exact vin_d (by decide) | exact vp_in_nI (by omega) (by decide) | decide | omega)) hK hP hD hE hS (hB0 0 _ rfl) rfl rfl rfl hl.1 (Nat.le_of_ble_eq_true rfl) rfl rfl ⟨(Nat.le_of_ble_eq_true rfl), (Nat.le_of_ble_eq_true rfl)⟩ ⟨(Nat.le_of_ble_eq_true rfl), (Nat.le_of_ble_eq_true rfl)⟩ dX12_carriedBy_16) hS rfl (fun locs hS => ?_)
      refine lv_iconst (v := 1) S.1 S.2.1 dX12_carriedBy_19 (by decide) ?_
      refine lv_icmp_ne (tgt := 40) S.1 S.2.1 dX12_carriedBy_20 (by decide) (fun (c3 : ¬ (f_X12_of mW (nI n) 5) = 1) => ?_) (fun (c3 : (f_X12_of mW (nI n) 5) = 1) => ?_)
      · refine lv_iconst (v := 0) S.1 S.2.1 dX12_carriedBy_40 (by decide) ?_
        refine lv_ior S.1 S.2.1 dX12_carriedBy_41 ?_
        refine lv_istore_n (lv' := [(2, .int ((L_X12_carriedBy_4 mW p n) ||| 0)), (3, .int (nI n)), (0, .ref (α (k))), (1, .int p)]) S.1 S.2.1 dX12_carriedBy_42 rfl hl (by decide) rfl (fun ls hl => ?_)
        refine lv_iinc (v := (nI (n + 1))) (lv' := [(3, .int (nI (n + 1))), (2, .int ((L_X12_carriedBy_4 mW p n) ||| 0)), (0, .ref (α (k))), (1, .int p)]) S.1 S.2.1 dX12_carriedBy_43 hl (k := 1) rfl ((nI_succ n).symm) (by decide) rfl (fun ls hl => ?_)
        refine lv_goto (tgt := 4) S.1 S.2.1 dX12_carriedBy_46 (by decide) ?_
        have hL : (L_X12_carriedBy_4 mW p (n + 1)) = ((L_X12_carriedBy_4 mW p n) ||| 0) := (iter_s _ _ _).trans (if_neg c3)
        refine ih (n + 1) (by omega) _ _ hS ?_
        rw [hL]; exact lv_sub hl [0, 1, 2, 3] rfl
      · refine lv_aload_n S.1 S.2.1 dX12_carriedBy_23 rfl (lv_at hl 2 rfl) ?_
        refine lv_iload_n S.1 S.2.1 dX12_carriedBy_24 rfl (lv_at hl 0 rfl) ?_
        refine lv_bipush (v := 6) S.1 S.2.1 dX12_carriedBy_25 (by decide) ?_
        refine g_aftR0 (st1 := [.int (f_X12_of mW (nI n) 6), .int (L_X12_carriedBy_4 mW p n)]) (g_V (As := [.int (nI n), .int 6]) (rest := [.int (L_X12_carriedBy_4 mW p n)]) S mi_X12_of qw1579 (c_X12_of l D A w α (k) mTaped mErr mPpl mBts mUs mRa mSt mKi mWd mVal mLet mFin mNp mNb mOuts mWant mFnd mTape mNum mNam mFst mBnm mW mUn mSl mKp mnNum mnNam mnBo mnBn (nI n) 6 hB0 (by first | assumption | exact vin_d (by decide) | exact vp_in_nI (by omega) (by decide) | decide | omega) (by first | assumption | exact vin_d (by decide) | exact vp_in_nI (by omega) (by decide) | decide | omega)) hK hP hD hE hS (hB0 0 _ rfl) rfl rfl rfl hl.1 (Nat.le_of_ble_eq_true rfl) rfl rfl ⟨(Nat.le_of_ble_eq_true rfl), (Nat.le_of_ble_eq_true rfl)⟩ ⟨(Nat.le_of_ble_eq_true rfl), (Nat.le_of_ble_eq_true rfl)⟩ dX12_carriedBy_27) hS rfl (fun locs hS => ?_)
        refine lv_iload_n S.1 S.2.1 dX12_carriedBy_30 rfl (lv_at hl 3 rfl) ?_
        refine lv_icmp_ne (tgt := 40) S.1 S.2.1 dX12_carriedBy_31 (by decide) (fun (c4 : ¬ (f_X12_of mW (nI n) 6) = p) => ?_) (fun (c4 : (f_X12_of mW (nI n) 6) = p) => ?_)
        · refine lv_iconst (v := 0) S.1 S.2.1 dX12_carriedBy_40 (by decide) ?_
          refine lv_ior S.1 S.2.1 dX12_carriedBy_41 ?_
          refine lv_istore_n (lv' := [(2, .int ((L_X12_carriedBy_4 mW p n) ||| 0)), (3, .int (nI n)), (0, .ref (α (k))), (1, .int p)]) S.1 S.2.1 dX12_carriedBy_42 rfl hl (by decide) rfl (fun ls hl => ?_)
          refine lv_iinc (v := (nI (n + 1))) (lv' := [(3, .int (nI (n + 1))), (2, .int ((L_X12_carriedBy_4 mW p n) ||| 0)), (0, .ref (α (k))), (1, .int p)]) S.1 S.2.1 dX12_carriedBy_43 hl (k := 1) rfl ((nI_succ n).symm) (by decide) rfl (fun ls hl => ?_)
          refine lv_goto (tgt := 4) S.1 S.2.1 dX12_carriedBy_46 (by decide) ?_
          have hL : (L_X12_carriedBy_4 mW p (n + 1)) = ((L_X12_carriedBy_4 mW p n) ||| 0) := (iter_s _ _ _).trans ((if_pos c3).trans (if_neg c4))
          refine ih (n + 1) (by omega) _ _ hS ?_
          rw [hL]; exact lv_sub hl [0, 1, 2, 3] rfl
        · refine lv_iconst (v := 1) S.1 S.2.1 dX12_carriedBy_34 (by decide) ?_
          refine lv_iload_n S.1 S.2.1 dX12_carriedBy_35 rfl (lv_at hl 0 rfl) ?_
          refine lv_ishl S.1 S.2.1 dX12_carriedBy_36 ?_
          refine lv_goto (tgt := 41) S.1 S.2.1 dX12_carriedBy_37 (by decide) ?_
          refine lv_ior S.1 S.2.1 dX12_carriedBy_41 ?_
          refine lv_istore_n (lv' := [(2, .int ((L_X12_carriedBy_4 mW p n) ||| ((1 : Int32) <<< ((nI n) &&& 31)))), (3, .int (nI n)), (0, .ref (α (k))), (1, .int p)]) S.1 S.2.1 dX12_carriedBy_42 rfl hl (by decide) rfl (fun ls hl => ?_)
          refine lv_iinc (v := (nI (n + 1))) (lv' := [(3, .int (nI (n + 1))), (2, .int ((L_X12_carriedBy_4 mW p n) ||| ((1 : Int32) <<< ((nI n) &&& 31)))), (0, .ref (α (k))), (1, .int p)]) S.1 S.2.1 dX12_carriedBy_43 hl (k := 1) rfl ((nI_succ n).symm) (by decide) rfl (fun ls hl => ?_)
          refine lv_goto (tgt := 4) S.1 S.2.1 dX12_carriedBy_46 (by decide) ?_
          have hL : (L_X12_carriedBy_4 mW p (n + 1)) = ((L_X12_carriedBy_4 mW p n) ||| ((1 : Int32) <<< ((nI n) &&& 31))) := (iter_s _ _ _).trans ((if_pos c3).trans (if_pos c4))
          refine ih (n + 1) (by omega) _ _ hS ?_
          rw [hL]; exact lv_sub hl [0, 1, 2, 3] rfl
  have hL0 : (L_X12_carriedBy_4 mW p 0) = 0 := iter_z _ _
  exact lp4 mPpl.toNatClampNeg 0 (Nat.zero_add _) _ _ hS (by rw [hL0]; exact lv_sub hl [0, 1, 2, 3] rfl)
def f_X12_has (mW : Nat → Int32) (p : Int32) (o : Int32) : Bool := (if p = o then (if (f_X12_of mW o 5) = 0 then true else false) else (if (f_X12_of mW o 5) = 1 then (if (f_X12_of mW o 6) = p then true else false) else false))
set_option maxHeartbeats 4000000 in
set_option maxRecDepth 100000 in
theorem c_X12_has (l : Launch) (D : va_G) (A : Nat → Prop) (w : va_W) (α : Nat → Nat) (k : Nat) (mTaped : Int32) (mErr : Int32) (mPpl : Int32) (mBts : Int32) (mUs : Int32) (mRa : Int32) (mSt : Int32) (mKi : Int32) (mWd : Int64) (mVal : Int32) (mLet : Int32) (mFin : Int32) (mNp : Int32) (mNb : Int32) (mOuts : Int32) (mWant : Int32) (mFnd : Int32) (mTape : Nat → Int32) (mNum : Nat → Int32) (mNam : Nat → Int32) (mFst : Nat → Int32) (mBnm : Nat → Int32) (mW : Nat → Int32) (mUn : Nat → Int32) (mSl : Nat → Int32) (mKp : Nat → Int32) (mnNum : Nat → Int32) (mnNam : Nat → Int32) (mnBo : Nat → Int32) (mnBn : Nat → Int32) (p : Int32) (o : Int32) (hB0 : Blk w k (cM D α k mTaped mErr mPpl mBts mUs mRa mSt mKi mWd mVal mLet mFin mNp mNb mOuts mWant mFnd mTape mNum mNam mFst mBnm mW mUn mSl mKp mnNum mnNam mnBo mnBn)) (hy0 : vp_in o 20) : Met l yX12_has (ws_ yX12_has cX12_has 3 (some .boolean)) ({ frames := 1, cells := 0, slots := 0, locals := 22 }) (gPre D A [.ref (α (k)), .int p, .int o] w) (gR (some (.int (b2i (f_X12_has mW p o))))) 0 0 A := by
  refine g_met [(0, .ref (α (k))), (1, .int p), (2, .int o)] (plainFor_of_name (by decide)) (Nat.le_of_ble_eq_true rfl) rfl (fun pg en s mi ar below me co ls S hK hP hD hE hS hr hlk hnm hl => ?_)
  refine lv_iload_n S.1 S.2.1 dX12_has_0 rfl (lv_at hl 1 rfl) ?_
  refine lv_iload_n S.1 S.2.1 dX12_has_1 rfl (lv_at hl 2 rfl) ?_
  refine lv_icmp_ne (tgt := 22) S.1 S.2.1 dX12_has_2 (by decide) (fun (c1 : ¬ p = o) => ?_) (fun (c1 : p = o) => ?_)
  · refine lv_aload_n S.1 S.2.1 dX12_has_22 rfl (lv_at hl 0 rfl) ?_
    refine lv_iload_n S.1 S.2.1 dX12_has_23 rfl (lv_at hl 2 rfl) ?_
    refine lv_iconst (v := 5) S.1 S.2.1 dX12_has_24 (by decide) ?_
    refine g_aftR0 (st1 := [.int (f_X12_of mW o 5)]) (g_V (As := [.int o, .int 5]) (rest := []) S mi_X12_of qw1579 (c_X12_of l D A w α (k) mTaped mErr mPpl mBts mUs mRa mSt mKi mWd mVal mLet mFin mNp mNb mOuts mWant mFnd mTape mNum mNam mFst mBnm mW mUn mSl mKp mnNum mnNam mnBo mnBn o 5 hB0 (by first | assumption | exact vin_d (by decide) | exact vp_in_nI (by omega) (by decide) | decide | omega) (by first | assumption | exact vin_d (by decide) | exact vp_in_nI (by omega) (by decide) | decide | omega)) hK hP hD hE hS (hB0 0 _ rfl) rfl rfl rfl hl.1 (Nat.le_of_ble_eq_true rfl) rfl rfl ⟨(Nat.le_of_ble_eq_true rfl), (Nat.le_of_ble_eq_true rfl)⟩ ⟨(Nat.le_of_ble_eq_true rfl), (Nat.le_of_ble_eq_true rfl)⟩ dX12_has_25) hS rfl (fun locs hS => ?_)
    refine lv_iconst (v := 1) S.1 S.2.1 dX12_has_28 (by decide) ?_
    refine lv_icmp_ne (tgt := 47) S.1 S.2.1 dX12_has_29 (by decide) (fun (c2 : ¬ (f_X12_of mW o 5) = 1) => ?_) (fun (c2 : (f_X12_of mW o 5) = 1) => ?_)
    · refine lv_iconst (v := 0) S.1 S.2.1 dX12_has_47 (by decide) ?_
      have hf : (f_X12_has mW p o) = false := (if_neg c1).trans (if_neg c2)
      exact g_zretR S hr hlk hS rfl (by rw [hf] <;> rfl) dX12_has_48
    · refine lv_aload_n S.1 S.2.1 dX12_has_32 rfl (lv_at hl 0 rfl) ?_
      refine lv_iload_n S.1 S.2.1 dX12_has_33 rfl (lv_at hl 2 rfl) ?_
      refine lv_bipush (v := 6) S.1 S.2.1 dX12_has_34 (by decide) ?_
      refine g_aftR0 (st1 := [.int (f_X12_of mW o 6)]) (g_V (As := [.int o, .int 6]) (rest := []) S mi_X12_of qw1579 (c_X12_of l D A w α (k) mTaped mErr mPpl mBts mUs mRa mSt mKi mWd mVal mLet mFin mNp mNb mOuts mWant mFnd mTape mNum mNam mFst mBnm mW mUn mSl mKp mnNum mnNam mnBo mnBn o 6 hB0 (by first | assumption | exact vin_d (by decide) | exact vp_in_nI (by omega) (by decide) | decide | omega) (by first | assumption | exact vin_d (by decide) | exact vp_in_nI (by omega) (by decide) | decide | omega)) hK hP hD hE hS (hB0 0 _ rfl) rfl rfl rfl hl.1 (Nat.le_of_ble_eq_true rfl) rfl rfl ⟨(Nat.le_of_ble_eq_true rfl), (Nat.le_of_ble_eq_true rfl)⟩ ⟨(Nat.le_of_ble_eq_true rfl), (Nat.le_of_ble_eq_true rfl)⟩ dX12_has_36) hS rfl (fun locs hS => ?_)
      refine lv_iload_n S.1 S.2.1 dX12_has_39 rfl (lv_at hl 1 rfl) ?_
      refine lv_icmp_ne (tgt := 47) S.1 S.2.1 dX12_has_40 (by decide) (fun (c3 : ¬ (f_X12_of mW o 6) = p) => ?_) (fun (c3 : (f_X12_of mW o 6) = p) => ?_)
      · refine lv_iconst (v := 0) S.1 S.2.1 dX12_has_47 (by decide) ?_
        have hf : (f_X12_has mW p o) = false := (if_neg c1).trans ((if_pos c2).trans (if_neg c3))
        exact g_zretR S hr hlk hS rfl (by rw [hf] <;> rfl) dX12_has_48
      · refine lv_iconst (v := 1) S.1 S.2.1 dX12_has_43 (by decide) ?_
        refine lv_goto (tgt := 48) S.1 S.2.1 dX12_has_44 (by decide) ?_
        have hf : (f_X12_has mW p o) = true := (if_neg c1).trans ((if_pos c2).trans (if_pos c3))
        exact g_zretR S hr hlk hS rfl (by rw [hf] <;> rfl) dX12_has_48
  · refine lv_aload_n S.1 S.2.1 dX12_has_5 rfl (lv_at hl 0 rfl) ?_
    refine lv_iload_n S.1 S.2.1 dX12_has_6 rfl (lv_at hl 2 rfl) ?_
    refine lv_iconst (v := 5) S.1 S.2.1 dX12_has_7 (by decide) ?_
    refine g_aftR0 (st1 := [.int (f_X12_of mW o 5)]) (g_V (As := [.int o, .int 5]) (rest := []) S mi_X12_of qw1579 (c_X12_of l D A w α (k) mTaped mErr mPpl mBts mUs mRa mSt mKi mWd mVal mLet mFin mNp mNb mOuts mWant mFnd mTape mNum mNam mFst mBnm mW mUn mSl mKp mnNum mnNam mnBo mnBn o 5 hB0 (by first | assumption | exact vin_d (by decide) | exact vp_in_nI (by omega) (by decide) | decide | omega) (by first | assumption | exact vin_d (by decide) | exact vp_in_nI (by omega) (by decide) | decide | omega)) hK hP hD hE hS (hB0 0 _ rfl) rfl rfl rfl hl.1 (Nat.le_of_ble_eq_true rfl) rfl rfl ⟨(Nat.le_of_ble_eq_true rfl), (Nat.le_of_ble_eq_true rfl)⟩ ⟨(Nat.le_of_ble_eq_true rfl), (Nat.le_of_ble_eq_true rfl)⟩ dX12_has_8) hS rfl (fun locs hS => ?_)
    refine lv_if_ne (tgt := 18) S.1 S.2.1 dX12_has_11 (by decide) (fun (c4 : ¬ (f_X12_of mW o 5) = 0) => ?_) (fun (c4 : (f_X12_of mW o 5) = 0) => ?_)
    · refine lv_iconst (v := 0) S.1 S.2.1 dX12_has_18 (by decide) ?_
      refine lv_goto (tgt := 48) S.1 S.2.1 dX12_has_19 (by decide) ?_
      have hf : (f_X12_has mW p o) = false := (if_pos c1).trans (if_neg c4)
      exact g_zretR S hr hlk hS rfl (by rw [hf] <;> rfl) dX12_has_48
    · refine lv_iconst (v := 1) S.1 S.2.1 dX12_has_14 (by decide) ?_
      refine lv_goto (tgt := 48) S.1 S.2.1 dX12_has_15 (by decide) ?_
      have hf : (f_X12_has mW p o) = true := (if_pos c1).trans (if_pos c4)
      exact g_zretR S hr hlk hS rfl (by rw [hf] <;> rfl) dX12_has_48
def f_X12_wrongBy (mNum : Nat → Int32) (mW : Nat → Int32) (p : Int32) (o : Int32) (b : Int32) : Int32 := (if p = o then 0 else (bif (f_X12_isAtSea mW o) then (if (f_X12_of mW p 4) < (mNum 7) then (if (f_X12_of mW o 7) < 0 then 0 else (if (f_X12_of mW o 7) = b then 0 else 3)) else 2) else 1))
set_option maxHeartbeats 4000000 in
set_option maxRecDepth 100000 in
theorem c_X12_wrongBy (l : Launch) (D : va_G) (A : Nat → Prop) (w : va_W) (α : Nat → Nat) (k : Nat) (mTaped : Int32) (mErr : Int32) (mPpl : Int32) (mBts : Int32) (mUs : Int32) (mRa : Int32) (mSt : Int32) (mKi : Int32) (mWd : Int64) (mVal : Int32) (mLet : Int32) (mFin : Int32) (mNp : Int32) (mNb : Int32) (mOuts : Int32) (mWant : Int32) (mFnd : Int32) (mTape : Nat → Int32) (mNum : Nat → Int32) (mNam : Nat → Int32) (mFst : Nat → Int32) (mBnm : Nat → Int32) (mW : Nat → Int32) (mUn : Nat → Int32) (mSl : Nat → Int32) (mKp : Nat → Int32) (mnNum : Nat → Int32) (mnNam : Nat → Int32) (mnBo : Nat → Int32) (mnBn : Nat → Int32) (p : Int32) (o : Int32) (b : Int32) (hB0 : Blk w k (cM D α k mTaped mErr mPpl mBts mUs mRa mSt mKi mWd mVal mLet mFin mNp mNb mOuts mWant mFnd mTape mNum mNam mFst mBnm mW mUn mSl mKp mnNum mnNam mnBo mnBn)) (hy0 : vp_in p 20) (hy1 : vp_in o 20) : Met l yX12_wrongBy (ws_ yX12_wrongBy cX12_wrongBy 5 (some .int)) ({ frames := 2, cells := 0, slots := 0, locals := 43 }) (gPre D A [.ref (α (k)), .int p, .int o, .int b] w) (gR (some (.int (f_X12_wrongBy mNum mW p o b)))) 0 0 A := by
  refine g_met [(0, .ref (α (k))), (1, .int p), (2, .int o), (3, .int b)] (plainFor_of_name (by decide)) (Nat.le_of_ble_eq_true rfl) rfl (fun pg en s mi ar below me co ls S hK hP hD hE hS hr hlk hnm hl => ?_)
  refine lv_iload_n S.1 S.2.1 dX12_wrongBy_0 rfl (lv_at hl 1 rfl) ?_
  refine lv_iload_n S.1 S.2.1 dX12_wrongBy_1 rfl (lv_at hl 2 rfl) ?_
  refine lv_icmp_ne (tgt := 7) S.1 S.2.1 dX12_wrongBy_2 (by decide) (fun (c1 : ¬ p = o) => ?_) (fun (c1 : p = o) => ?_)
  · refine lv_aload_n S.1 S.2.1 dX12_wrongBy_7 rfl (lv_at hl 0 rfl) ?_
    refine lv_iload_n S.1 S.2.1 dX12_wrongBy_8 rfl (lv_at hl 2 rfl) ?_
    refine g_aftR0 (st1 := [.int (b2i (f_X12_isAtSea mW o))]) (g_V (As := [.int o]) (rest := []) S mi_X12_isAtSea qw1583 (c_X12_isAtSea l D A w α (k) mTaped mErr mPpl mBts mUs mRa mSt mKi mWd mVal mLet mFin mNp mNb mOuts mWant mFnd mTape mNum mNam mFst mBnm mW mUn mSl mKp mnNum mnNam mnBo mnBn o hB0 (by first | assumption | exact vin_d (by decide) | exact vp_in_nI (by omega) (by decide) | decide | omega)) hK hP hD hE hS (hB0 0 _ rfl) rfl rfl rfl hl.1 (Nat.le_of_ble_eq_true rfl) rfl rfl ⟨(Nat.le_of_ble_eq_true rfl), (Nat.le_of_ble_eq_true rfl)⟩ ⟨(Nat.le_of_ble_eq_true rfl), (Nat.le_of_ble_eq_true rfl)⟩ dX12_wrongBy_9) hS rfl (fun locs hS => ?_)
    refine g_bifne (b := (f_X12_isAtSea mW o)) (tgt := 17) S dX12_wrongBy_12 (by decide) (fun (c2 : (f_X12_isAtSea mW o) = true) => ?_) (fun (c2 : (f_X12_isAtSea mW o) = false) => ?_)
    · refine lv_aload_n S.1 S.2.1 dX12_wrongBy_17 rfl (lv_at hl 0 rfl) ?_
      refine lv_iload_n S.1 S.2.1 dX12_wrongBy_18 rfl (lv_at hl 2 rfl) ?_
      refine lv_bipush (v := 7) S.1 S.2.1 dX12_wrongBy_19 (by decide) ?_
      refine g_aftR0 (st1 := [.int (f_X12_of mW o 7)]) (g_V (As := [.int o, .int 7]) (rest := []) S mi_X12_of qw1579 (c_X12_of l D A w α (k) mTaped mErr mPpl mBts mUs mRa mSt mKi mWd mVal mLet mFin mNp mNb mOuts mWant mFnd mTape mNum mNam mFst mBnm mW mUn mSl mKp mnNum mnNam mnBo mnBn o 7 hB0 (by first | assumption | exact vin_d (by decide) | exact vp_in_nI (by omega) (by decide) | decide | omega) (by first | assumption | exact vin_d (by decide) | exact vp_in_nI (by omega) (by decide) | decide | omega)) hK hP hD hE hS (hB0 0 _ rfl) rfl rfl rfl hl.1 (Nat.le_of_ble_eq_true rfl) rfl rfl ⟨(Nat.le_of_ble_eq_true rfl), (Nat.le_of_ble_eq_true rfl)⟩ ⟨(Nat.le_of_ble_eq_true rfl), (Nat.le_of_ble_eq_true rfl)⟩ dX12_wrongBy_21) hS rfl (fun locs hS => ?_)
      refine lv_istore (lv' := [(4, .int (f_X12_of mW o 7)), (0, .ref (α (k))), (1, .int p), (2, .int o), (3, .int b)]) S.1 S.2.1 dX12_wrongBy_24 hl (by decide) rfl (fun ls hl => ?_)
      refine lv_aload_n S.1 S.2.1 dX12_wrongBy_26 rfl (lv_at hl 1 rfl) ?_
      refine lv_iload_n S.1 S.2.1 dX12_wrongBy_27 rfl (lv_at hl 2 rfl) ?_
      refine lv_iconst (v := 4) S.1 S.2.1 dX12_wrongBy_28 (by decide) ?_
      refine g_aftR0 (st1 := [.int (f_X12_of mW p 4)]) (g_V (As := [.int p, .int 4]) (rest := []) S mi_X12_of qw1579 (c_X12_of l D A w α (k) mTaped mErr mPpl mBts mUs mRa mSt mKi mWd mVal mLet mFin mNp mNb mOuts mWant mFnd mTape mNum mNam mFst mBnm mW mUn mSl mKp mnNum mnNam mnBo mnBn p 4 hB0 (by first | assumption | exact vin_d (by decide) | exact vp_in_nI (by omega) (by decide) | decide | omega) (by first | assumption | exact vin_d (by decide) | exact vp_in_nI (by omega) (by decide) | decide | omega)) hK hP hD hE hS (hB0 0 _ rfl) rfl rfl rfl hl.1 (Nat.le_of_ble_eq_true rfl) rfl rfl ⟨(Nat.le_of_ble_eq_true rfl), (Nat.le_of_ble_eq_true rfl)⟩ ⟨(Nat.le_of_ble_eq_true rfl), (Nat.le_of_ble_eq_true rfl)⟩ dX12_wrongBy_29) hS rfl (fun locs hS => ?_)
      refine lv_aload_n S.1 S.2.1 dX12_wrongBy_32 rfl (lv_at hl 1 rfl) ?_
      refine g_get (v := .ref (α (k + 2))) S hK hP (hB0 0 _ rfl) rfl inX12 3 (by decide) qw1377 rfl dX12_wrongBy_33 ?_
      refine lv_bipush (v := 7) S.1 S.2.1 dX12_wrongBy_36 (by decide) ?_
      refine g_iald S hK hP (hB0 2 _ rfl) (by first | assumption | exact vin_d (by decide) | exact vp_in_nI (by omega) (by decide) | decide) dX12_wrongBy_38 ?_
      refine lv_icmp_lt (tgt := 46) S.1 S.2.1 dX12_wrongBy_39 (by decide) (fun (c3 : (f_X12_of mW p 4) < (mNum 7)) => ?_) (fun (c3 : ¬ (f_X12_of mW p 4) < (mNum 7)) => ?_)
      · refine lv_iload S.1 S.2.1 dX12_wrongBy_46 (lv_at hl 0 rfl) ?_
        refine lv_if_lt (tgt := 61) S.1 S.2.1 dX12_wrongBy_48 (by decide) (fun (c4 : (f_X12_of mW o 7) < 0) => ?_) (fun (c4 : ¬ (f_X12_of mW o 7) < 0) => ?_)
        · refine lv_iconst (v := 0) S.1 S.2.1 dX12_wrongBy_61 (by decide) ?_
          have hf : (f_X12_wrongBy mNum mW p o b) = 0 := (if_neg c1).trans ((cd_t c2).trans ((if_pos c3).trans (if_pos c4)))
          exact g_iretR S hr hlk hS (by rw [hf] <;> rfl) dX12_wrongBy_62
        · refine lv_iload S.1 S.2.1 dX12_wrongBy_51 (lv_at hl 0 rfl) ?_
          refine lv_iload_n S.1 S.2.1 dX12_wrongBy_53 rfl (lv_at hl 4 rfl) ?_
          refine lv_icmp_eq (tgt := 61) S.1 S.2.1 dX12_wrongBy_54 (by decide) (fun (c5 : (f_X12_of mW o 7) = b) => ?_) (fun (c5 : ¬ (f_X12_of mW o 7) = b) => ?_)
          · refine lv_iconst (v := 0) S.1 S.2.1 dX12_wrongBy_61 (by decide) ?_
            have hf : (f_X12_wrongBy mNum mW p o b) = 0 := (if_neg c1).trans ((cd_t c2).trans ((if_pos c3).trans ((if_neg c4).trans (if_pos c5))))
            exact g_iretR S hr hlk hS (by rw [hf] <;> rfl) dX12_wrongBy_62
          · refine lv_iconst (v := 3) S.1 S.2.1 dX12_wrongBy_57 (by decide) ?_
            refine lv_goto (tgt := 62) S.1 S.2.1 dX12_wrongBy_58 (by decide) ?_
            have hf : (f_X12_wrongBy mNum mW p o b) = 3 := (if_neg c1).trans ((cd_t c2).trans ((if_pos c3).trans ((if_neg c4).trans (if_neg c5))))
            exact g_iretR S hr hlk hS (by rw [hf] <;> rfl) dX12_wrongBy_62
      · refine lv_iconst (v := 2) S.1 S.2.1 dX12_wrongBy_42 (by decide) ?_
        refine lv_goto (tgt := 62) S.1 S.2.1 dX12_wrongBy_43 (by decide) ?_
        have hf : (f_X12_wrongBy mNum mW p o b) = 2 := (if_neg c1).trans ((cd_t c2).trans (if_neg c3))
        exact g_iretR S hr hlk hS (by rw [hf] <;> rfl) dX12_wrongBy_62
    · refine lv_iconst (v := 1) S.1 S.2.1 dX12_wrongBy_15 (by decide) ?_
      have hf : (f_X12_wrongBy mNum mW p o b) = 1 := (if_neg c1).trans (cd_f c2)
      exact g_iretR S hr hlk hS (by rw [hf] <;> rfl) dX12_wrongBy_16
  · refine lv_iconst (v := 0) S.1 S.2.1 dX12_wrongBy_5 (by decide) ?_
    have hf : (f_X12_wrongBy mNum mW p o b) = 0 := if_pos c1
    exact g_iretR S hr hlk hS (by rw [hf] <;> rfl) dX12_wrongBy_6
def L_X12_setIn_4 (mW : Nat → Int32) (b : Int32) : Nat → Int32 := iter_ (fun n sn => (if (f_X12_of mW (nI n) 5) = 2 then (if (f_X12_of mW (nI n) 8) = b then (sn ||| ((1 : Int32) <<< ((nI n) &&& 31))) else (sn ||| 0)) else (sn ||| 0))) 0
def f_X12_setIn (mPpl : Int32) (mW : Nat → Int32) (b : Int32) : Int32 := (L_X12_setIn_4 mW b mPpl.toNatClampNeg)
set_option maxHeartbeats 4000000 in
set_option maxRecDepth 100000 in
theorem c_X12_setIn (l : Launch) (D : va_G) (A : Nat → Prop) (w : va_W) (α : Nat → Nat) (k : Nat) (mTaped : Int32) (mErr : Int32) (mPpl : Int32) (mBts : Int32) (mUs : Int32) (mRa : Int32) (mSt : Int32) (mKi : Int32) (mWd : Int64) (mVal : Int32) (mLet : Int32) (mFin : Int32) (mNp : Int32) (mNb : Int32) (mOuts : Int32) (mWant : Int32) (mFnd : Int32) (mTape : Nat → Int32) (mNum : Nat → Int32) (mNam : Nat → Int32) (mFst : Nat → Int32) (mBnm : Nat → Int32) (mW : Nat → Int32) (mUn : Nat → Int32) (mSl : Nat → Int32) (mKp : Nat → Int32) (mnNum : Nat → Int32) (mnNam : Nat → Int32) (mnBo : Nat → Int32) (mnBn : Nat → Int32) (b : Int32) (hB0 : Blk w k (cM D α k mTaped mErr mPpl mBts mUs mRa mSt mKi mWd mVal mLet mFin mNp mNb mOuts mWant mFnd mTape mNum mNam mFst mBnm mW mUn mSl mKp mnNum mnNam mnBo mnBn)) (hy0 : vp_in mPpl 21) : Met l yX12_setIn (ws_ yX12_setIn cX12_setIn 4 (some .int)) ({ frames := 1, cells := 0, slots := 0, locals := 22 }) (gPre D A [.ref (α (k)), .int b] w) (gR (some (.int (f_X12_setIn mPpl mW b)))) 0 0 A := by
  refine g_met [(0, .ref (α (k))), (1, .int b)] (plainFor_of_name (by decide)) (Nat.le_of_ble_eq_true rfl) rfl (fun pg en s mi ar below me co ls S hK hP hD hE hS hr hlk hnm hl => ?_)
  have hpn := vin_lt (show vp_in mPpl 21 by assumption)
  refine lv_iconst (v := 0) S.1 S.2.1 dX12_setIn_0 (by decide) ?_
  refine lv_istore_n (lv' := [(2, .int 0), (0, .ref (α (k))), (1, .int b)]) S.1 S.2.1 dX12_setIn_1 rfl hl (by decide) rfl (fun ls hl => ?_)
  refine lv_iconst (v := 0) S.1 S.2.1 dX12_setIn_2 (by decide) ?_
  refine lv_istore_n (lv' := [(3, .int 0), (2, .int 0), (0, .ref (α (k))), (1, .int b)]) S.1 S.2.1 dX12_setIn_3 rfl hl (by decide) rfl (fun ls hl => ?_)
  have lp4 : ∀ (j n : Nat), n + j = mPpl.toNatClampNeg → ∀ (locs : List Loc) (ls : Array Slot), va_S A s.heap s.heap locs → lv_has ls 4 [(3, .int (nI n)), (2, .int (L_X12_setIn_4 mW b n)), (0, .ref (α (k))), (1, .int b)] → W pg l en ({ frames := 1, cells := 0, slots := 0, locals := 22 } : Room) s mi ar below me co s.heap locs 0 0 (MQ below (gR (some (.int (f_X12_setIn mPpl mW b)))) ar s 0 0 A) (F0 mi 4 ls []) := by
    intro j
    induction j with
    | zero =>
      intro n hn locs ls hS hl
      have hn : mPpl.toNatClampNeg = n := hn.symm
      subst hn
      refine lv_iload_n S.1 S.2.1 dX12_setIn_4 rfl (lv_at hl 0 rfl) ?_
      refine lv_aload_n S.1 S.2.1 dX12_setIn_5 rfl (lv_at hl 2 rfl) ?_
      refine g_get (v := .int mPpl) S hK hP (hB0 0 _ rfl) rfl inX12 4 (by decide) qw1378 rfl dX12_setIn_6 ?_
      refine lv_icmp_ge (tgt := 49) S.1 S.2.1 dX12_setIn_9 (by decide) (fun (c1 : mPpl ≤ (nI mPpl.toNatClampNeg)) => ?_) (fun (c1 : ¬ mPpl ≤ (nI mPpl.toNatClampNeg)) => absurd c1 (lp_out (s := 0) ((Nat.max_eq_left (Nat.zero_le _)).symm)))
      refine lv_iload_n S.1 S.2.1 dX12_setIn_49 rfl (lv_at hl 1 rfl) ?_
      have hf : (f_X12_setIn mPpl mW b) = (L_X12_setIn_4 mW b mPpl.toNatClampNeg) := rfl
      exact g_iretR S hr hlk hS (by rw [hf] <;> rfl) dX12_setIn_50
    | succ j ih =>
      intro n hn locs ls hS hl
      refine lv_iload_n S.1 S.2.1 dX12_setIn_4 rfl (lv_at hl 0 rfl) ?_
      refine lv_aload_n S.1 S.2.1 dX12_setIn_5 rfl (lv_at hl 2 rfl) ?_
      refine g_get (v := .int mPpl) S hK hP (hB0 0 _ rfl) rfl inX12 4 (by decide) qw1378 rfl dX12_setIn_6 ?_
      refine lv_icmp_ge (tgt := 49) S.1 S.2.1 dX12_setIn_9 (by decide) (fun (c2 : mPpl ≤ (nI n)) => absurd c2 (lp_in (s := 0) (rfl) hn)) (fun (c2 : ¬ mPpl ≤ (nI n)) => ?_)
      refine lv_iload_n S.1 S.2.1 dX12_setIn_12 rfl (lv_at hl 1 rfl) ?_
      refine lv_aload_n S.1 S.2.1 dX12_setIn_13 rfl (lv_at hl 2 rfl) ?_
      refine lv_iload_n S.1 S.2.1 dX12_setIn_14 rfl (lv_at hl 0 rfl) ?_
      refine lv_iconst (v := 5) S.1 S.2.1 dX12_setIn_15 (by decide) ?_
      refine g_aftR0 (st1 := [.int (f_X12_of mW (nI n) 5), .int (L_X12_setIn_4 mW b n)]) (g_V (As := [.int (nI n), .int 5]) (rest := [.int (L_X12_setIn_4 mW b n)]) S mi_X12_of qw1579 (c_X12_of l D A w α (k) mTaped mErr mPpl mBts mUs mRa mSt mKi mWd mVal mLet mFin mNp mNb mOuts mWant mFnd mTape mNum mNam mFst mBnm mW mUn mSl mKp mnNum mnNam mnBo mnBn (nI n) 5 hB0 (by first | assumption | exact vin_d (by decide) | exact vp_in_nI (by omega) (by decide) | decide | omega) (by first | assumption | exact vin_d (by decide) | exact vp_in_nI (by omega) (by decide) | decide | omega)) hK hP hD hE hS (hB0 0 _ rfl) rfl rfl rfl hl.1 (Nat.le_of_ble_eq_true rfl) rfl rfl ⟨(Nat.le_of_ble_eq_true rfl), (Nat.le_of_ble_eq_true rfl)⟩ ⟨(Nat.le_of_ble_eq_true rfl), (Nat.le_of_ble_eq_true rfl)⟩ dX12_setIn_16) hS rfl (fun locs hS => ?_)
      refine lv_iconst (v := 2) S.1 S.2.1 dX12_setIn_19 (by decide) ?_
      refine lv_icmp_ne (tgt := 40) S.1 S.2.1 dX12_setIn_20 (by decide) (fun (c3 : ¬ (f_X12_of mW (nI n) 5) = 2) => ?_) (fun (c3 : (f_X12_of mW (nI n) 5) = 2) => ?_)
      · refine lv_iconst (v := 0) S.1 S.2.1 dX12_setIn_40 (by decide) ?_
        refine lv_ior S.1 S.2.1 dX12_setIn_41 ?_
        refine lv_istore_n (lv' := [(2, .int ((L_X12_setIn_4 mW b n) ||| 0)), (3, .int (nI n)), (0, .ref (α (k))), (1, .int b)]) S.1 S.2.1 dX12_setIn_42 rfl hl (by decide) rfl (fun ls hl => ?_)
        refine lv_iinc (v := (nI (n + 1))) (lv' := [(3, .int (nI (n + 1))), (2, .int ((L_X12_setIn_4 mW b n) ||| 0)), (0, .ref (α (k))), (1, .int b)]) S.1 S.2.1 dX12_setIn_43 hl (k := 1) rfl ((nI_succ n).symm) (by decide) rfl (fun ls hl => ?_)
        refine lv_goto (tgt := 4) S.1 S.2.1 dX12_setIn_46 (by decide) ?_
        have hL : (L_X12_setIn_4 mW b (n + 1)) = ((L_X12_setIn_4 mW b n) ||| 0) := (iter_s _ _ _).trans (if_neg c3)
        refine ih (n + 1) (by omega) _ _ hS ?_
        rw [hL]; exact lv_sub hl [0, 1, 2, 3] rfl
      · refine lv_aload_n S.1 S.2.1 dX12_setIn_23 rfl (lv_at hl 2 rfl) ?_
        refine lv_iload_n S.1 S.2.1 dX12_setIn_24 rfl (lv_at hl 0 rfl) ?_
        refine lv_bipush (v := 8) S.1 S.2.1 dX12_setIn_25 (by decide) ?_
        refine g_aftR0 (st1 := [.int (f_X12_of mW (nI n) 8), .int (L_X12_setIn_4 mW b n)]) (g_V (As := [.int (nI n), .int 8]) (rest := [.int (L_X12_setIn_4 mW b n)]) S mi_X12_of qw1579 (c_X12_of l D A w α (k) mTaped mErr mPpl mBts mUs mRa mSt mKi mWd mVal mLet mFin mNp mNb mOuts mWant mFnd mTape mNum mNam mFst mBnm mW mUn mSl mKp mnNum mnNam mnBo mnBn (nI n) 8 hB0 (by first | assumption | exact vin_d (by decide) | exact vp_in_nI (by omega) (by decide) | decide | omega) (by first | assumption | exact vin_d (by decide) | exact vp_in_nI (by omega) (by decide) | decide | omega)) hK hP hD hE hS (hB0 0 _ rfl) rfl rfl rfl hl.1 (Nat.le_of_ble_eq_true rfl) rfl rfl ⟨(Nat.le_of_ble_eq_true rfl), (Nat.le_of_ble_eq_true rfl)⟩ ⟨(Nat.le_of_ble_eq_true rfl), (Nat.le_of_ble_eq_true rfl)⟩ dX12_setIn_27) hS rfl (fun locs hS => ?_)
        refine lv_iload_n S.1 S.2.1 dX12_setIn_30 rfl (lv_at hl 3 rfl) ?_
        refine lv_icmp_ne (tgt := 40) S.1 S.2.1 dX12_setIn_31 (by decide) (fun (c4 : ¬ (f_X12_of mW (nI n) 8) = b) => ?_) (fun (c4 : (f_X12_of mW (nI n) 8) = b) => ?_)
        · refine lv_iconst (v := 0) S.1 S.2.1 dX12_setIn_40 (by decide) ?_
          refine lv_ior S.1 S.2.1 dX12_setIn_41 ?_
          refine lv_istore_n (lv' := [(2, .int ((L_X12_setIn_4 mW b n) ||| 0)), (3, .int (nI n)), (0, .ref (α (k))), (1, .int b)]) S.1 S.2.1 dX12_setIn_42 rfl hl (by decide) rfl (fun ls hl => ?_)
          refine lv_iinc (v := (nI (n + 1))) (lv' := [(3, .int (nI (n + 1))), (2, .int ((L_X12_setIn_4 mW b n) ||| 0)), (0, .ref (α (k))), (1, .int b)]) S.1 S.2.1 dX12_setIn_43 hl (k := 1) rfl ((nI_succ n).symm) (by decide) rfl (fun ls hl => ?_)
          refine lv_goto (tgt := 4) S.1 S.2.1 dX12_setIn_46 (by decide) ?_
          have hL : (L_X12_setIn_4 mW b (n + 1)) = ((L_X12_setIn_4 mW b n) ||| 0) := (iter_s _ _ _).trans ((if_pos c3).trans (if_neg c4))
          refine ih (n + 1) (by omega) _ _ hS ?_
          rw [hL]; exact lv_sub hl [0, 1, 2, 3] rfl
        · refine lv_iconst (v := 1) S.1 S.2.1 dX12_setIn_34 (by decide) ?_
          refine lv_iload_n S.1 S.2.1 dX12_setIn_35 rfl (lv_at hl 0 rfl) ?_
          refine lv_ishl S.1 S.2.1 dX12_setIn_36 ?_
          refine lv_goto (tgt := 41) S.1 S.2.1 dX12_setIn_37 (by decide) ?_
          refine lv_ior S.1 S.2.1 dX12_setIn_41 ?_
          refine lv_istore_n (lv' := [(2, .int ((L_X12_setIn_4 mW b n) ||| ((1 : Int32) <<< ((nI n) &&& 31)))), (3, .int (nI n)), (0, .ref (α (k))), (1, .int b)]) S.1 S.2.1 dX12_setIn_42 rfl hl (by decide) rfl (fun ls hl => ?_)
          refine lv_iinc (v := (nI (n + 1))) (lv' := [(3, .int (nI (n + 1))), (2, .int ((L_X12_setIn_4 mW b n) ||| ((1 : Int32) <<< ((nI n) &&& 31)))), (0, .ref (α (k))), (1, .int b)]) S.1 S.2.1 dX12_setIn_43 hl (k := 1) rfl ((nI_succ n).symm) (by decide) rfl (fun ls hl => ?_)
          refine lv_goto (tgt := 4) S.1 S.2.1 dX12_setIn_46 (by decide) ?_
          have hL : (L_X12_setIn_4 mW b (n + 1)) = ((L_X12_setIn_4 mW b n) ||| ((1 : Int32) <<< ((nI n) &&& 31))) := (iter_s _ _ _).trans ((if_pos c3).trans (if_pos c4))
          refine ih (n + 1) (by omega) _ _ hS ?_
          rw [hL]; exact lv_sub hl [0, 1, 2, 3] rfl
  have hL0 : (L_X12_setIn_4 mW b 0) = 0 := iter_z _ _
  exact lp4 mPpl.toNatClampNeg 0 (Nat.zero_add _) _ _ hS (by rw [hL0]; exact lv_sub hl [0, 1, 2, 3] rfl)
def L_X12_allLaid_4 (mPpl : Int32) (mW : Nat → Int32) : Nat → Int32 := iter_ (fun n sn => (sn ||| (f_X12_setIn mPpl mW (nI n)))) 0
def f_X12_allLaid (mPpl : Int32) (mW : Nat → Int32) : Int32 := (L_X12_allLaid_4 mPpl mW 4)
set_option maxHeartbeats 4000000 in
set_option maxRecDepth 100000 in
theorem c_X12_allLaid (l : Launch) (D : va_G) (A : Nat → Prop) (w : va_W) (α : Nat → Nat) (k : Nat) (mTaped : Int32) (mErr : Int32) (mPpl : Int32) (mBts : Int32) (mUs : Int32) (mRa : Int32) (mSt : Int32) (mKi : Int32) (mWd : Int64) (mVal : Int32) (mLet : Int32) (mFin : Int32) (mNp : Int32) (mNb : Int32) (mOuts : Int32) (mWant : Int32) (mFnd : Int32) (mTape : Nat → Int32) (mNum : Nat → Int32) (mNam : Nat → Int32) (mFst : Nat → Int32) (mBnm : Nat → Int32) (mW : Nat → Int32) (mUn : Nat → Int32) (mSl : Nat → Int32) (mKp : Nat → Int32) (mnNum : Nat → Int32) (mnNam : Nat → Int32) (mnBo : Nat → Int32) (mnBn : Nat → Int32) (hB0 : Blk w k (cM D α k mTaped mErr mPpl mBts mUs mRa mSt mKi mWd mVal mLet mFin mNp mNb mOuts mWant mFnd mTape mNum mNam mFst mBnm mW mUn mSl mKp mnNum mnNam mnBo mnBn)) (hy0 : vp_in mPpl 21) : Met l yX12_allLaid (ws_ yX12_allLaid cX12_allLaid 3 (some .int)) ({ frames := 2, cells := 0, slots := 0, locals := 45 }) (gPre D A [.ref (α (k))] w) (gR (some (.int (f_X12_allLaid mPpl mW)))) 0 0 A := by
  refine g_met [(0, .ref (α (k)))] (plainFor_of_name (by decide)) (Nat.le_of_ble_eq_true rfl) rfl (fun pg en s mi ar below me co ls S hK hP hD hE hS hr hlk hnm hl => ?_)
  have hpn := vin_lt (show vp_in mPpl 21 by assumption)
  refine lv_iconst (v := 0) S.1 S.2.1 dX12_allLaid_0 (by decide) ?_
  refine lv_istore_n (lv' := [(1, .int 0), (0, .ref (α (k)))]) S.1 S.2.1 dX12_allLaid_1 rfl hl (by decide) rfl (fun ls hl => ?_)
  refine lv_iconst (v := 0) S.1 S.2.1 dX12_allLaid_2 (by decide) ?_
  refine lv_istore_n (lv' := [(2, .int 0), (1, .int 0), (0, .ref (α (k)))]) S.1 S.2.1 dX12_allLaid_3 rfl hl (by decide) rfl (fun ls hl => ?_)
  have lp4 : ∀ (j n : Nat), n + j = 4 → ∀ (locs : List Loc) (ls : Array Slot), va_S A s.heap s.heap locs → lv_has ls 3 [(2, .int (nI n)), (1, .int (L_X12_allLaid_4 mPpl mW n)), (0, .ref (α (k)))] → W pg l en ({ frames := 2, cells := 0, slots := 0, locals := 45 } : Room) s mi ar below me co s.heap locs 0 0 (MQ below (gR (some (.int (f_X12_allLaid mPpl mW)))) ar s 0 0 A) (F0 mi 4 ls []) := by
    intro j
    induction j with
    | zero =>
      intro n hn locs ls hS hl
      have hn : 4 = n := hn.symm
      subst hn
      refine lv_iload_n S.1 S.2.1 dX12_allLaid_4 rfl (lv_at hl 0 rfl) ?_
      refine lv_iconst (v := 4) S.1 S.2.1 dX12_allLaid_5 (by decide) ?_
      refine lv_icmp_ge (tgt := 23) S.1 S.2.1 dX12_allLaid_6 (by decide) (fun (c1 : 4 ≤ (nI 4)) => ?_) (fun (c1 : ¬ 4 ≤ (nI 4)) => absurd c1 (lp_out (s := 0) (by decide)))
      refine lv_iload_n S.1 S.2.1 dX12_allLaid_23 rfl (lv_at hl 1 rfl) ?_
      have hf : (f_X12_allLaid mPpl mW) = (L_X12_allLaid_4 mPpl mW 4) := rfl
      exact g_iretR S hr hlk hS (by rw [hf] <;> rfl) dX12_allLaid_24
    | succ j ih =>
      intro n hn locs ls hS hl
      refine lv_iload_n S.1 S.2.1 dX12_allLaid_4 rfl (lv_at hl 0 rfl) ?_
      refine lv_iconst (v := 4) S.1 S.2.1 dX12_allLaid_5 (by decide) ?_
      refine lv_icmp_ge (tgt := 23) S.1 S.2.1 dX12_allLaid_6 (by decide) (fun (c2 : 4 ≤ (nI n)) => absurd c2 (lp_in (s := 0) (by decide) hn)) (fun (c2 : ¬ 4 ≤ (nI n)) => ?_)
      refine lv_iload_n S.1 S.2.1 dX12_allLaid_9 rfl (lv_at hl 1 rfl) ?_
      refine lv_aload_n S.1 S.2.1 dX12_allLaid_10 rfl (lv_at hl 2 rfl) ?_
      refine lv_iload_n S.1 S.2.1 dX12_allLaid_11 rfl (lv_at hl 0 rfl) ?_
      refine g_aftR0 (st1 := [.int (f_X12_setIn mPpl mW (nI n)), .int (L_X12_allLaid_4 mPpl mW n)]) (g_V (As := [.int (nI n)]) (rest := [.int (L_X12_allLaid_4 mPpl mW n)]) S mi_X12_setIn qw1668 (c_X12_setIn l D A w α (k) mTaped mErr mPpl mBts mUs mRa mSt mKi mWd mVal mLet mFin mNp mNb mOuts mWant mFnd mTape mNum mNam mFst mBnm mW mUn mSl mKp mnNum mnNam mnBo mnBn (nI n) hB0 (by first | assumption | exact vin_d (by decide) | exact vp_in_nI (by omega) (by decide) | decide | omega)) hK hP hD hE hS (hB0 0 _ rfl) rfl rfl rfl hl.1 (Nat.le_of_ble_eq_true rfl) rfl rfl ⟨(Nat.le_of_ble_eq_true rfl), (Nat.le_of_ble_eq_true rfl)⟩ ⟨(Nat.le_of_ble_eq_true rfl), (Nat.le_of_ble_eq_true rfl)⟩ dX12_allLaid_12) hS rfl (fun locs hS => ?_)
      refine lv_ior S.1 S.2.1 dX12_allLaid_15 ?_
      refine lv_istore_n (lv' := [(1, .int ((L_X12_allLaid_4 mPpl mW n) ||| (f_X12_setIn mPpl mW (nI n)))), (2, .int (nI n)), (0, .ref (α (k)))]) S.1 S.2.1 dX12_allLaid_16 rfl hl (by decide) rfl (fun ls hl => ?_)
      refine lv_iinc (v := (nI (n + 1))) (lv' := [(2, .int (nI (n + 1))), (1, .int ((L_X12_allLaid_4 mPpl mW n) ||| (f_X12_setIn mPpl mW (nI n)))), (0, .ref (α (k)))]) S.1 S.2.1 dX12_allLaid_17 hl (k := 1) rfl ((nI_succ n).symm) (by decide) rfl (fun ls hl => ?_)
      refine lv_goto (tgt := 4) S.1 S.2.1 dX12_allLaid_20 (by decide) ?_
      have hL : (L_X12_allLaid_4 mPpl mW (n + 1)) = ((L_X12_allLaid_4 mPpl mW n) ||| (f_X12_setIn mPpl mW (nI n))) := (iter_s _ _ _).trans (rfl)
      refine ih (n + 1) (by omega) _ _ hS ?_
      rw [hL]; exact lv_sub hl [0, 1, 2] rfl
  have hL0 : (L_X12_allLaid_4 mPpl mW 0) = 0 := iter_z _ _
  exact lp4 4 0 (Nat.zero_add _) _ _ hS (by rw [hL0]; exact lv_sub hl [0, 1, 2] rfl)
def L_X12_wrongSet_4 (mW : Nat → Int32) : Nat → Int32 := iter_ (fun n sn => (if (f_X12_of mW (nI n) 5) = 2 then (if (f_X12_of mW (nI n) 10) ≤ 0 then (sn ||| 0) else (sn ||| ((1 : Int32) <<< ((nI n) &&& 31)))) else (sn ||| 0))) 0
def f_X12_wrongSet (mPpl : Int32) (mW : Nat → Int32) : Int32 := (L_X12_wrongSet_4 mW mPpl.toNatClampNeg)
set_option maxHeartbeats 4000000 in
set_option maxRecDepth 100000 in
theorem c_X12_wrongSet (l : Launch) (D : va_G) (A : Nat → Prop) (w : va_W) (α : Nat → Nat) (k : Nat) (mTaped : Int32) (mErr : Int32) (mPpl : Int32) (mBts : Int32) (mUs : Int32) (mRa : Int32) (mSt : Int32) (mKi : Int32) (mWd : Int64) (mVal : Int32) (mLet : Int32) (mFin : Int32) (mNp : Int32) (mNb : Int32) (mOuts : Int32) (mWant : Int32) (mFnd : Int32) (mTape : Nat → Int32) (mNum : Nat → Int32) (mNam : Nat → Int32) (mFst : Nat → Int32) (mBnm : Nat → Int32) (mW : Nat → Int32) (mUn : Nat → Int32) (mSl : Nat → Int32) (mKp : Nat → Int32) (mnNum : Nat → Int32) (mnNam : Nat → Int32) (mnBo : Nat → Int32) (mnBn : Nat → Int32) (hB0 : Blk w k (cM D α k mTaped mErr mPpl mBts mUs mRa mSt mKi mWd mVal mLet mFin mNp mNb mOuts mWant mFnd mTape mNum mNam mFst mBnm mW mUn mSl mKp mnNum mnNam mnBo mnBn)) (hy0 : vp_in mPpl 21) : Met l yX12_wrongSet (ws_ yX12_wrongSet cX12_wrongSet 3 (some .int)) ({ frames := 1, cells := 0, slots := 0, locals := 22 }) (gPre D A [.ref (α (k))] w) (gR (some (.int (f_X12_wrongSet mPpl mW)))) 0 0 A := by
  refine g_met [(0, .ref (α (k)))] (plainFor_of_name (by decide)) (Nat.le_of_ble_eq_true rfl) rfl (fun pg en s mi ar below me co ls S hK hP hD hE hS hr hlk hnm hl => ?_)
  have hpn := vin_lt (show vp_in mPpl 21 by assumption)
  refine lv_iconst (v := 0) S.1 S.2.1 dX12_wrongSet_0 (by decide) ?_
  refine lv_istore_n (lv' := [(1, .int 0), (0, .ref (α (k)))]) S.1 S.2.1 dX12_wrongSet_1 rfl hl (by decide) rfl (fun ls hl => ?_)
  refine lv_iconst (v := 0) S.1 S.2.1 dX12_wrongSet_2 (by decide) ?_
  refine lv_istore_n (lv' := [(2, .int 0), (1, .int 0), (0, .ref (α (k)))]) S.1 S.2.1 dX12_wrongSet_3 rfl hl (by decide) rfl (fun ls hl => ?_)
  have lp4 : ∀ (j n : Nat), n + j = mPpl.toNatClampNeg → ∀ (locs : List Loc) (ls : Array Slot), va_S A s.heap s.heap locs → lv_has ls 3 [(2, .int (nI n)), (1, .int (L_X12_wrongSet_4 mW n)), (0, .ref (α (k)))] → W pg l en ({ frames := 1, cells := 0, slots := 0, locals := 22 } : Room) s mi ar below me co s.heap locs 0 0 (MQ below (gR (some (.int (f_X12_wrongSet mPpl mW)))) ar s 0 0 A) (F0 mi 4 ls []) := by
    intro j
    induction j with
    | zero =>
      intro n hn locs ls hS hl
      have hn : mPpl.toNatClampNeg = n := hn.symm
      subst hn
      refine lv_iload_n S.1 S.2.1 dX12_wrongSet_4 rfl (lv_at hl 0 rfl) ?_
      refine lv_aload_n S.1 S.2.1 dX12_wrongSet_5 rfl (lv_at hl 2 rfl) ?_
      refine g_get (v := .int mPpl) S hK hP (hB0 0 _ rfl) rfl inX12 4 (by decide) qw1378 rfl dX12_wrongSet_6 ?_
      refine lv_icmp_ge (tgt := 48) S.1 S.2.1 dX12_wrongSet_9 (by decide) (fun (c1 : mPpl ≤ (nI mPpl.toNatClampNeg)) => ?_) (fun (c1 : ¬ mPpl ≤ (nI mPpl.toNatClampNeg)) => absurd c1 (lp_out (s := 0) ((Nat.max_eq_left (Nat.zero_le _)).symm)))
      refine lv_iload_n S.1 S.2.1 dX12_wrongSet_48 rfl (lv_at hl 1 rfl) ?_
      have hf : (f_X12_wrongSet mPpl mW) = (L_X12_wrongSet_4 mW mPpl.toNatClampNeg) := rfl
      exact g_iretR S hr hlk hS (by rw [hf] <;> rfl) dX12_wrongSet_49
    | succ j ih =>
      intro n hn locs ls hS hl
      refine lv_iload_n S.1 S.2.1 dX12_wrongSet_4 rfl (lv_at hl 0 rfl) ?_
      refine lv_aload_n S.1 S.2.1 dX12_wrongSet_5 rfl (lv_at hl 2 rfl) ?_
      refine g_get (v := .int mPpl) S hK hP (hB0 0 _ rfl) rfl inX12 4 (by decide) qw1378 rfl dX12_wrongSet_6 ?_
      refine lv_icmp_ge (tgt := 48) S.1 S.2.1 dX12_wrongSet_9 (by decide) (fun (c2 : mPpl ≤ (nI n)) => absurd c2 (lp_in (s := 0) (rfl) hn)) (fun (c2 : ¬ mPpl ≤ (nI n)) => ?_)
      refine lv_iload_n S.1 S.2.1 dX12_wrongSet_12 rfl (lv_at hl 1 rfl) ?_
      refine lv_aload_n S.1 S.2.1 dX12_wrongSet_13 rfl (lv_at hl 2 rfl) ?_
      refine lv_iload_n S.1 S.2.1 dX12_wrongSet_14 rfl (lv_at hl 0 rfl) ?_
      refine lv_iconst (v := 5) S.1 S.2.1 dX12_wrongSet_15 (by decide) ?_
      refine g_aftR0 (st1 := [.int (f_X12_of mW (nI n) 5), .int (L_X12_wrongSet_4 mW n)]) (g_V (As := [.int (nI n), .int 5]) (rest := [.int (L_X12_wrongSet_4 mW n)]) S mi_X12_of qw1579 (c_X12_of l D A w α (k) mTaped mErr mPpl mBts mUs mRa mSt mKi mWd mVal mLet mFin mNp mNb mOuts mWant mFnd mTape mNum mNam mFst mBnm mW mUn mSl mKp mnNum mnNam mnBo mnBn (nI n) 5 hB0 (by first | assumption | exact vin_d (by decide) | exact vp_in_nI (by omega) (by decide) | decide | omega) (by first | assumption | exact vin_d (by decide) | exact vp_in_nI (by omega) (by decide) | decide | omega)) hK hP hD hE hS (hB0 0 _ rfl) rfl rfl rfl hl.1 (Nat.le_of_ble_eq_true rfl) rfl rfl ⟨(Nat.le_of_ble_eq_true rfl), (Nat.le_of_ble_eq_true rfl)⟩ ⟨(Nat.le_of_ble_eq_true rfl), (Nat.le_of_ble_eq_true rfl)⟩ dX12_wrongSet_16) hS rfl (fun locs hS => ?_)
      refine lv_iconst (v := 2) S.1 S.2.1 dX12_wrongSet_19 (by decide) ?_
      refine lv_icmp_ne (tgt := 39) S.1 S.2.1 dX12_wrongSet_20 (by decide) (fun (c3 : ¬ (f_X12_of mW (nI n) 5) = 2) => ?_) (fun (c3 : (f_X12_of mW (nI n) 5) = 2) => ?_)
      · refine lv_iconst (v := 0) S.1 S.2.1 dX12_wrongSet_39 (by decide) ?_
        refine lv_ior S.1 S.2.1 dX12_wrongSet_40 ?_
        refine lv_istore_n (lv' := [(1, .int ((L_X12_wrongSet_4 mW n) ||| 0)), (2, .int (nI n)), (0, .ref (α (k)))]) S.1 S.2.1 dX12_wrongSet_41 rfl hl (by decide) rfl (fun ls hl => ?_)
        refine lv_iinc (v := (nI (n + 1))) (lv' := [(2, .int (nI (n + 1))), (1, .int ((L_X12_wrongSet_4 mW n) ||| 0)), (0, .ref (α (k)))]) S.1 S.2.1 dX12_wrongSet_42 hl (k := 1) rfl ((nI_succ n).symm) (by decide) rfl (fun ls hl => ?_)
        refine lv_goto (tgt := 4) S.1 S.2.1 dX12_wrongSet_45 (by decide) ?_
        have hL : (L_X12_wrongSet_4 mW (n + 1)) = ((L_X12_wrongSet_4 mW n) ||| 0) := (iter_s _ _ _).trans (if_neg c3)
        refine ih (n + 1) (by omega) _ _ hS ?_
        rw [hL]; exact lv_sub hl [0, 1, 2] rfl
      · refine lv_aload_n S.1 S.2.1 dX12_wrongSet_23 rfl (lv_at hl 2 rfl) ?_
        refine lv_iload_n S.1 S.2.1 dX12_wrongSet_24 rfl (lv_at hl 0 rfl) ?_
        refine lv_bipush (v := 10) S.1 S.2.1 dX12_wrongSet_25 (by decide) ?_
        refine g_aftR0 (st1 := [.int (f_X12_of mW (nI n) 10), .int (L_X12_wrongSet_4 mW n)]) (g_V (As := [.int (nI n), .int 10]) (rest := [.int (L_X12_wrongSet_4 mW n)]) S mi_X12_of qw1579 (c_X12_of l D A w α (k) mTaped mErr mPpl mBts mUs mRa mSt mKi mWd mVal mLet mFin mNp mNb mOuts mWant mFnd mTape mNum mNam mFst mBnm mW mUn mSl mKp mnNum mnNam mnBo mnBn (nI n) 10 hB0 (by first | assumption | exact vin_d (by decide) | exact vp_in_nI (by omega) (by decide) | decide | omega) (by first | assumption | exact vin_d (by decide) | exact vp_in_nI (by omega) (by decide) | decide | omega)) hK hP hD hE hS (hB0 0 _ rfl) rfl rfl rfl hl.1 (Nat.le_of_ble_eq_true rfl) rfl rfl ⟨(Nat.le_of_ble_eq_true rfl), (Nat.le_of_ble_eq_true rfl)⟩ ⟨(Nat.le_of_ble_eq_true rfl), (Nat.le_of_ble_eq_true rfl)⟩ dX12_wrongSet_27) hS rfl (fun locs hS => ?_)
        refine lv_if_le (tgt := 39) S.1 S.2.1 dX12_wrongSet_30 (by decide) (fun (c4 : (f_X12_of mW (nI n) 10) ≤ 0) => ?_) (fun (c4 : ¬ (f_X12_of mW (nI n) 10) ≤ 0) => ?_)
        · refine lv_iconst (v := 0) S.1 S.2.1 dX12_wrongSet_39 (by decide) ?_
          refine lv_ior S.1 S.2.1 dX12_wrongSet_40 ?_
          refine lv_istore_n (lv' := [(1, .int ((L_X12_wrongSet_4 mW n) ||| 0)), (2, .int (nI n)), (0, .ref (α (k)))]) S.1 S.2.1 dX12_wrongSet_41 rfl hl (by decide) rfl (fun ls hl => ?_)
          refine lv_iinc (v := (nI (n + 1))) (lv' := [(2, .int (nI (n + 1))), (1, .int ((L_X12_wrongSet_4 mW n) ||| 0)), (0, .ref (α (k)))]) S.1 S.2.1 dX12_wrongSet_42 hl (k := 1) rfl ((nI_succ n).symm) (by decide) rfl (fun ls hl => ?_)
          refine lv_goto (tgt := 4) S.1 S.2.1 dX12_wrongSet_45 (by decide) ?_
          have hL : (L_X12_wrongSet_4 mW (n + 1)) = ((L_X12_wrongSet_4 mW n) ||| 0) := (iter_s _ _ _).trans ((if_pos c3).trans (if_pos c4))
          refine ih (n + 1) (by omega) _ _ hS ?_
          rw [hL]; exact lv_sub hl [0, 1, 2] rfl
        · refine lv_iconst (v := 1) S.1 S.2.1 dX12_wrongSet_33 (by decide) ?_
          refine lv_iload_n S.1 S.2.1 dX12_wrongSet_34 rfl (lv_at hl 0 rfl) ?_
          refine lv_ishl S.1 S.2.1 dX12_wrongSet_35 ?_
          refine lv_goto (tgt := 40) S.1 S.2.1 dX12_wrongSet_36 (by decide) ?_
          refine lv_ior S.1 S.2.1 dX12_wrongSet_40 ?_
          refine lv_istore_n (lv' := [(1, .int ((L_X12_wrongSet_4 mW n) ||| ((1 : Int32) <<< ((nI n) &&& 31)))), (2, .int (nI n)), (0, .ref (α (k)))]) S.1 S.2.1 dX12_wrongSet_41 rfl hl (by decide) rfl (fun ls hl => ?_)
          refine lv_iinc (v := (nI (n + 1))) (lv' := [(2, .int (nI (n + 1))), (1, .int ((L_X12_wrongSet_4 mW n) ||| ((1 : Int32) <<< ((nI n) &&& 31)))), (0, .ref (α (k)))]) S.1 S.2.1 dX12_wrongSet_42 hl (k := 1) rfl ((nI_succ n).symm) (by decide) rfl (fun ls hl => ?_)
          refine lv_goto (tgt := 4) S.1 S.2.1 dX12_wrongSet_45 (by decide) ?_
          have hL : (L_X12_wrongSet_4 mW (n + 1)) = ((L_X12_wrongSet_4 mW n) ||| ((1 : Int32) <<< ((nI n) &&& 31))) := (iter_s _ _ _).trans ((if_pos c3).trans (if_neg c4))
          refine ih (n + 1) (by omega) _ _ hS ?_
          rw [hL]; exact lv_sub hl [0, 1, 2] rfl
  have hL0 : (L_X12_wrongSet_4 mW 0) = 0 := iter_z _ _
  exact lp4 mPpl.toNatClampNeg 0 (Nat.zero_add _) _ _ hS (by rw [hL0]; exact lv_sub hl [0, 1, 2] rfl)
def L_X12_struckMany_4 (mW : Nat → Int32) : Nat → Int32 := iter_ (fun n sn => (if (f_X12_of mW (nI n) 5) = 3 then (sn + 1) else (sn + 0))) 0
def f_X12_struckMany (mPpl : Int32) (mW : Nat → Int32) : Int32 := (L_X12_struckMany_4 mW mPpl.toNatClampNeg)
set_option maxHeartbeats 4000000 in
set_option maxRecDepth 100000 in
theorem c_X12_struckMany (l : Launch) (D : va_G) (A : Nat → Prop) (w : va_W) (α : Nat → Nat) (k : Nat) (mTaped : Int32) (mErr : Int32) (mPpl : Int32) (mBts : Int32) (mUs : Int32) (mRa : Int32) (mSt : Int32) (mKi : Int32) (mWd : Int64) (mVal : Int32) (mLet : Int32) (mFin : Int32) (mNp : Int32) (mNb : Int32) (mOuts : Int32) (mWant : Int32) (mFnd : Int32) (mTape : Nat → Int32) (mNum : Nat → Int32) (mNam : Nat → Int32) (mFst : Nat → Int32) (mBnm : Nat → Int32) (mW : Nat → Int32) (mUn : Nat → Int32) (mSl : Nat → Int32) (mKp : Nat → Int32) (mnNum : Nat → Int32) (mnNam : Nat → Int32) (mnBo : Nat → Int32) (mnBn : Nat → Int32) (hB0 : Blk w k (cM D α k mTaped mErr mPpl mBts mUs mRa mSt mKi mWd mVal mLet mFin mNp mNb mOuts mWant mFnd mTape mNum mNam mFst mBnm mW mUn mSl mKp mnNum mnNam mnBo mnBn)) (hy0 : vp_in mPpl 21) : Met l yX12_struckMany (ws_ yX12_struckMany cX12_struckMany 3 (some .int)) ({ frames := 1, cells := 0, slots := 0, locals := 22 }) (gPre D A [.ref (α (k))] w) (gR (some (.int (f_X12_struckMany mPpl mW)))) 0 0 A := by
  refine g_met [(0, .ref (α (k)))] (plainFor_of_name (by decide)) (Nat.le_of_ble_eq_true rfl) rfl (fun pg en s mi ar below me co ls S hK hP hD hE hS hr hlk hnm hl => ?_)
  have hpn := vin_lt (show vp_in mPpl 21 by assumption)
  refine lv_iconst (v := 0) S.1 S.2.1 dX12_struckMany_0 (by decide) ?_
  refine lv_istore_n (lv' := [(1, .int 0), (0, .ref (α (k)))]) S.1 S.2.1 dX12_struckMany_1 rfl hl (by decide) rfl (fun ls hl => ?_)
  refine lv_iconst (v := 0) S.1 S.2.1 dX12_struckMany_2 (by decide) ?_
  refine lv_istore_n (lv' := [(2, .int 0), (1, .int 0), (0, .ref (α (k)))]) S.1 S.2.1 dX12_struckMany_3 rfl hl (by decide) rfl (fun ls hl => ?_)
  have lp4 : ∀ (j n : Nat), n + j = mPpl.toNatClampNeg → ∀ (locs : List Loc) (ls : Array Slot), va_S A s.heap s.heap locs → lv_has ls 3 [(2, .int (nI n)), (1, .int (L_X12_struckMany_4 mW n)), (0, .ref (α (k)))] → W pg l en ({ frames := 1, cells := 0, slots := 0, locals := 22 } : Room) s mi ar below me co s.heap locs 0 0 (MQ below (gR (some (.int (f_X12_struckMany mPpl mW)))) ar s 0 0 A) (F0 mi 4 ls []) := by
    intro j
    induction j with
    | zero =>
      intro n hn locs ls hS hl
      have hn : mPpl.toNatClampNeg = n := hn.symm
      subst hn
      refine lv_iload_n S.1 S.2.1 dX12_struckMany_4 rfl (lv_at hl 0 rfl) ?_
      refine lv_aload_n S.1 S.2.1 dX12_struckMany_5 rfl (lv_at hl 2 rfl) ?_
      refine g_get (v := .int mPpl) S hK hP (hB0 0 _ rfl) rfl inX12 4 (by decide) qw1378 rfl dX12_struckMany_6 ?_
      refine lv_icmp_ge (tgt := 36) S.1 S.2.1 dX12_struckMany_9 (by decide) (fun (c1 : mPpl ≤ (nI mPpl.toNatClampNeg)) => ?_) (fun (c1 : ¬ mPpl ≤ (nI mPpl.toNatClampNeg)) => absurd c1 (lp_out (s := 0) ((Nat.max_eq_left (Nat.zero_le _)).symm)))
      refine lv_iload_n S.1 S.2.1 dX12_struckMany_36 rfl (lv_at hl 1 rfl) ?_
      have hf : (f_X12_struckMany mPpl mW) = (L_X12_struckMany_4 mW mPpl.toNatClampNeg) := rfl
      exact g_iretR S hr hlk hS (by rw [hf] <;> rfl) dX12_struckMany_37
    | succ j ih =>
      intro n hn locs ls hS hl
      refine lv_iload_n S.1 S.2.1 dX12_struckMany_4 rfl (lv_at hl 0 rfl) ?_
      refine lv_aload_n S.1 S.2.1 dX12_struckMany_5 rfl (lv_at hl 2 rfl) ?_
      refine g_get (v := .int mPpl) S hK hP (hB0 0 _ rfl) rfl inX12 4 (by decide) qw1378 rfl dX12_struckMany_6 ?_
      refine lv_icmp_ge (tgt := 36) S.1 S.2.1 dX12_struckMany_9 (by decide) (fun (c2 : mPpl ≤ (nI n)) => absurd c2 (lp_in (s := 0) (rfl) hn)) (fun (c2 : ¬ mPpl ≤ (nI n)) => ?_)
      refine lv_iload_n S.1 S.2.1 dX12_struckMany_12 rfl (lv_at hl 1 rfl) ?_
      refine lv_aload_n S.1 S.2.1 dX12_struckMany_13 rfl (lv_at hl 2 rfl) ?_
      refine lv_iload_n S.1 S.2.1 dX12_struckMany_14 rfl (lv_at hl 0 rfl) ?_
      refine lv_iconst (v := 5) S.1 S.2.1 dX12_struckMany_15 (by decide) ?_
      refine g_aftR0 (st1 := [.int (f_X12_of mW (nI n) 5), .int (L_X12_struckMany_4 mW n)]) (g_V (As := [.int (nI n), .int 5]) (rest := [.int (L_X12_struckMany_4 mW n)]) S mi_X12_of qw1579 (c_X12_of l D A w α (k) mTaped mErr mPpl mBts mUs mRa mSt mKi mWd mVal mLet mFin mNp mNb mOuts mWant mFnd mTape mNum mNam mFst mBnm mW mUn mSl mKp mnNum mnNam mnBo mnBn (nI n) 5 hB0 (by first | assumption | exact vin_d (by decide) | exact vp_in_nI (by omega) (by decide) | decide | omega) (by first | assumption | exact vin_d (by decide) | exact vp_in_nI (by omega) (by decide) | decide | omega)) hK hP hD hE hS (hB0 0 _ rfl) rfl rfl rfl hl.1 (Nat.le_of_ble_eq_true rfl) rfl rfl ⟨(Nat.le_of_ble_eq_true rfl), (Nat.le_of_ble_eq_true rfl)⟩ ⟨(Nat.le_of_ble_eq_true rfl), (Nat.le_of_ble_eq_true rfl)⟩ dX12_struckMany_16) hS rfl (fun locs hS => ?_)
      refine lv_iconst (v := 3) S.1 S.2.1 dX12_struckMany_19 (by decide) ?_
      refine lv_icmp_ne (tgt := 27) S.1 S.2.1 dX12_struckMany_20 (by decide) (fun (c3 : ¬ (f_X12_of mW (nI n) 5) = 3) => ?_) (fun (c3 : (f_X12_of mW (nI n) 5) = 3) => ?_)
      · refine lv_iconst (v := 0) S.1 S.2.1 dX12_struckMany_27 (by decide) ?_
        refine lv_iadd S.1 S.2.1 dX12_struckMany_28 ?_
        refine lv_istore_n (lv' := [(1, .int ((L_X12_struckMany_4 mW n) + 0)), (2, .int (nI n)), (0, .ref (α (k)))]) S.1 S.2.1 dX12_struckMany_29 rfl hl (by decide) rfl (fun ls hl => ?_)
        refine lv_iinc (v := (nI (n + 1))) (lv' := [(2, .int (nI (n + 1))), (1, .int ((L_X12_struckMany_4 mW n) + 0)), (0, .ref (α (k)))]) S.1 S.2.1 dX12_struckMany_30 hl (k := 1) rfl ((nI_succ n).symm) (by decide) rfl (fun ls hl => ?_)
        refine lv_goto (tgt := 4) S.1 S.2.1 dX12_struckMany_33 (by decide) ?_
        have hL : (L_X12_struckMany_4 mW (n + 1)) = ((L_X12_struckMany_4 mW n) + 0) := (iter_s _ _ _).trans (if_neg c3)
        refine ih (n + 1) (by omega) _ _ hS ?_
        rw [hL]; exact lv_sub hl [0, 1, 2] rfl
      · refine lv_iconst (v := 1) S.1 S.2.1 dX12_struckMany_23 (by decide) ?_
        refine lv_goto (tgt := 28) S.1 S.2.1 dX12_struckMany_24 (by decide) ?_
        refine lv_iadd S.1 S.2.1 dX12_struckMany_28 ?_
        refine lv_istore_n (lv' := [(1, .int ((L_X12_struckMany_4 mW n) + 1)), (2, .int (nI n)), (0, .ref (α (k)))]) S.1 S.2.1 dX12_struckMany_29 rfl hl (by decide) rfl (fun ls hl => ?_)
        refine lv_iinc (v := (nI (n + 1))) (lv' := [(2, .int (nI (n + 1))), (1, .int ((L_X12_struckMany_4 mW n) + 1)), (0, .ref (α (k)))]) S.1 S.2.1 dX12_struckMany_30 hl (k := 1) rfl ((nI_succ n).symm) (by decide) rfl (fun ls hl => ?_)
        refine lv_goto (tgt := 4) S.1 S.2.1 dX12_struckMany_33 (by decide) ?_
        have hL : (L_X12_struckMany_4 mW (n + 1)) = ((L_X12_struckMany_4 mW n) + 1) := (iter_s _ _ _).trans (if_pos c3)
        refine ih (n + 1) (by omega) _ _ hS ?_
        rw [hL]; exact lv_sub hl [0, 1, 2] rfl
  have hL0 : (L_X12_struckMany_4 mW 0) = 0 := iter_z _ _
  exact lp4 mPpl.toNatClampNeg 0 (Nat.zero_add _) _ _ hS (by rw [hL0]; exact lv_sub hl [0, 1, 2] rfl)
def f_X12_needOn (mPpl : Int32) (mNum : Nat → Int32) (d : Int32) (o : Int32) : Int32 := (if (mNum 6) ≤ (((((mNum (1 + ((d / (mNum 0)) - (d / (mNum 0)) / 4 * 4)).toNatClampNeg) * mPpl) + 99) / 100) - ((mNum 5) * o)) then (((((mNum (1 + ((d / (mNum 0)) - (d / (mNum 0)) / 4 * 4)).toNatClampNeg) * mPpl) + 99) / 100) - ((mNum 5) * o)) else (mNum 6))
set_option maxHeartbeats 4000000 in
set_option maxRecDepth 100000 in
theorem c_X12_needOn (l : Launch) (D : va_G) (A : Nat → Prop) (w : va_W) (α : Nat → Nat) (k : Nat) (mTaped : Int32) (mErr : Int32) (mPpl : Int32) (mBts : Int32) (mUs : Int32) (mRa : Int32) (mSt : Int32) (mKi : Int32) (mWd : Int64) (mVal : Int32) (mLet : Int32) (mFin : Int32) (mNp : Int32) (mNb : Int32) (mOuts : Int32) (mWant : Int32) (mFnd : Int32) (mTape : Nat → Int32) (mNum : Nat → Int32) (mNam : Nat → Int32) (mFst : Nat → Int32) (mBnm : Nat → Int32) (mW : Nat → Int32) (mUn : Nat → Int32) (mSl : Nat → Int32) (mKp : Nat → Int32) (mnNum : Nat → Int32) (mnNam : Nat → Int32) (mnBo : Nat → Int32) (mnBn : Nat → Int32) (d : Int32) (o : Int32) (hB0 : Blk w k (cM D α k mTaped mErr mPpl mBts mUs mRa mSt mKi mWd mVal mLet mFin mNp mNb mOuts mWant mFnd mTape mNum mNam mFst mBnm mW mUn mSl mKp mnNum mnNam mnBo mnBn)) (hy0 : 0 ≤ d) (hy1 : 0 < mNum 0) : Met l yX12_needOn (ws_ yX12_needOn cX12_needOn 5 (some .int)) ({ frames := 0, cells := 0, slots := 0, locals := 0 }) (gPre D A [.ref (α (k)), .int d, .int o] w) (gR (some (.int (f_X12_needOn mPpl mNum d o)))) 0 0 A := by
  refine g_met [(0, .ref (α (k))), (1, .int d), (2, .int o)] (plainFor_of_name (by decide)) (Nat.le_of_ble_eq_true rfl) rfl (fun pg en s mi ar below me co ls S hK hP hD hE hS hr hlk hnm hl => ?_)
  refine lv_aload_n S.1 S.2.1 dX12_needOn_0 rfl (lv_at hl 0 rfl) ?_
  refine g_get (v := .ref (α (k + 2))) S hK hP (hB0 0 _ rfl) rfl inX12 3 (by decide) qw1377 rfl dX12_needOn_1 ?_
  refine lv_iconst (v := 1) S.1 S.2.1 dX12_needOn_4 (by decide) ?_
  refine lv_iload_n S.1 S.2.1 dX12_needOn_5 rfl (lv_at hl 1 rfl) ?_
  refine lv_aload_n S.1 S.2.1 dX12_needOn_6 rfl (lv_at hl 0 rfl) ?_
  refine g_get (v := .ref (α (k + 2))) S hK hP (hB0 0 _ rfl) rfl inX12 3 (by decide) qw1377 rfl dX12_needOn_7 ?_
  refine lv_iconst (v := 0) S.1 S.2.1 dX12_needOn_10 (by decide) ?_
  refine g_iald S hK hP (hB0 2 _ rfl) (by first | assumption | exact vin_d (by decide) | exact vp_in_nI (by omega) (by decide) | decide) dX12_needOn_11 ?_
  refine lv_idiv S.1 S.2.1 dX12_needOn_12 (pos_ne hy1) ?_
  refine lv_iconst (v := 4) S.1 S.2.1 dX12_needOn_13 (by decide) ?_
  refine lv_irem S.1 S.2.1 dX12_needOn_14 (by decide) ?_
  refine lv_iadd S.1 S.2.1 dX12_needOn_15 ?_
  refine g_iald S hK hP (hB0 2 _ rfl) (season_in (div_nn hy0 hy1)) dX12_needOn_16 ?_
  refine lv_istore_n (lv' := [(3, .int (mNum (1 + ((d / (mNum 0)) - (d / (mNum 0)) / 4 * 4)).toNatClampNeg)), (0, .ref (α (k))), (1, .int d), (2, .int o)]) S.1 S.2.1 dX12_needOn_17 rfl hl (by decide) rfl (fun ls hl => ?_)
  refine lv_iload_n S.1 S.2.1 dX12_needOn_18 rfl (lv_at hl 0 rfl) ?_
  refine lv_aload_n S.1 S.2.1 dX12_needOn_19 rfl (lv_at hl 1 rfl) ?_
  refine g_get (v := .int mPpl) S hK hP (hB0 0 _ rfl) rfl inX12 4 (by decide) qw1378 rfl dX12_needOn_20 ?_
  refine lv_imul S.1 S.2.1 dX12_needOn_23 ?_
  refine lv_bipush (v := 99) S.1 S.2.1 dX12_needOn_24 (by decide) ?_
  refine lv_iadd S.1 S.2.1 dX12_needOn_26 ?_
  refine lv_bipush (v := 100) S.1 S.2.1 dX12_needOn_27 (by decide) ?_
  refine lv_idiv S.1 S.2.1 dX12_needOn_29 (by decide) ?_
  refine lv_aload_n S.1 S.2.1 dX12_needOn_30 rfl (lv_at hl 1 rfl) ?_
  refine g_get (v := .ref (α (k + 2))) S hK hP (hB0 0 _ rfl) rfl inX12 3 (by decide) qw1377 rfl dX12_needOn_31 ?_
  refine lv_iconst (v := 5) S.1 S.2.1 dX12_needOn_34 (by decide) ?_
  refine g_iald S hK hP (hB0 2 _ rfl) (by first | assumption | exact vin_d (by decide) | exact vp_in_nI (by omega) (by decide) | decide) dX12_needOn_35 ?_
  refine lv_iload_n S.1 S.2.1 dX12_needOn_36 rfl (lv_at hl 3 rfl) ?_
  refine lv_imul S.1 S.2.1 dX12_needOn_37 ?_
  refine lv_isub S.1 S.2.1 dX12_needOn_38 ?_
  refine lv_istore (lv' := [(4, .int (((((mNum (1 + ((d / (mNum 0)) - (d / (mNum 0)) / 4 * 4)).toNatClampNeg) * mPpl) + 99) / 100) - ((mNum 5) * o))), (3, .int (mNum (1 + ((d / (mNum 0)) - (d / (mNum 0)) / 4 * 4)).toNatClampNeg)), (0, .ref (α (k))), (1, .int d), (2, .int o)]) S.1 S.2.1 dX12_needOn_39 hl (by decide) rfl (fun ls hl => ?_)
  refine lv_iload S.1 S.2.1 dX12_needOn_41 (lv_at hl 0 rfl) ?_
  refine lv_aload_n S.1 S.2.1 dX12_needOn_43 rfl (lv_at hl 2 rfl) ?_
  refine g_get (v := .ref (α (k + 2))) S hK hP (hB0 0 _ rfl) rfl inX12 3 (by decide) qw1377 rfl dX12_needOn_44 ?_
  refine lv_bipush (v := 6) S.1 S.2.1 dX12_needOn_47 (by decide) ?_
  refine g_iald S hK hP (hB0 2 _ rfl) (by first | assumption | exact vin_d (by decide) | exact vp_in_nI (by omega) (by decide) | decide) dX12_needOn_49 ?_
  refine lv_icmp_ge (tgt := 63) S.1 S.2.1 dX12_needOn_50 (by decide) (fun (c1 : (mNum 6) ≤ (((((mNum (1 + ((d / (mNum 0)) - (d / (mNum 0)) / 4 * 4)).toNatClampNeg) * mPpl) + 99) / 100) - ((mNum 5) * o))) => ?_) (fun (c1 : ¬ (mNum 6) ≤ (((((mNum (1 + ((d / (mNum 0)) - (d / (mNum 0)) / 4 * 4)).toNatClampNeg) * mPpl) + 99) / 100) - ((mNum 5) * o))) => ?_)
  · refine lv_iload S.1 S.2.1 dX12_needOn_63 (lv_at hl 0 rfl) ?_
    have hf : (f_X12_needOn mPpl mNum d o) = (((((mNum (1 + ((d / (mNum 0)) - (d / (mNum 0)) / 4 * 4)).toNatClampNeg) * mPpl) + 99) / 100) - ((mNum 5) * o)) := if_pos c1
    exact g_iretR S hr hlk hS (by rw [hf] <;> rfl) dX12_needOn_65
  · refine lv_aload_n S.1 S.2.1 dX12_needOn_53 rfl (lv_at hl 2 rfl) ?_
    refine g_get (v := .ref (α (k + 2))) S hK hP (hB0 0 _ rfl) rfl inX12 3 (by decide) qw1377 rfl dX12_needOn_54 ?_
    refine lv_bipush (v := 6) S.1 S.2.1 dX12_needOn_57 (by decide) ?_
    refine g_iald S hK hP (hB0 2 _ rfl) (by first | assumption | exact vin_d (by decide) | exact vp_in_nI (by omega) (by decide) | decide) dX12_needOn_59 ?_
    refine lv_goto (tgt := 65) S.1 S.2.1 dX12_needOn_60 (by decide) ?_
    have hf : (f_X12_needOn mPpl mNum d o) = (mNum 6) := if_neg c1
    exact g_iretR S hr hlk hS (by rw [hf] <;> rfl) dX12_needOn_65
def L_X12_outOn_4 (mW : Nat → Int32) (d : Int32) : Nat → Int32 := iter_ (fun n sn => (bif (f_X12_isOut mW (nI n)) then (if (f_X12_ofBoat mW (nI n) 1) ≤ d then (sn + 0) else (sn + 1)) else (sn + 0))) 0
def f_X12_outOn (mBts : Int32) (mW : Nat → Int32) (d : Int32) : Int32 := (L_X12_outOn_4 mW d mBts.toNatClampNeg)
set_option maxHeartbeats 4000000 in
set_option maxRecDepth 100000 in
theorem c_X12_outOn (l : Launch) (D : va_G) (A : Nat → Prop) (w : va_W) (α : Nat → Nat) (k : Nat) (mTaped : Int32) (mErr : Int32) (mPpl : Int32) (mBts : Int32) (mUs : Int32) (mRa : Int32) (mSt : Int32) (mKi : Int32) (mWd : Int64) (mVal : Int32) (mLet : Int32) (mFin : Int32) (mNp : Int32) (mNb : Int32) (mOuts : Int32) (mWant : Int32) (mFnd : Int32) (mTape : Nat → Int32) (mNum : Nat → Int32) (mNam : Nat → Int32) (mFst : Nat → Int32) (mBnm : Nat → Int32) (mW : Nat → Int32) (mUn : Nat → Int32) (mSl : Nat → Int32) (mKp : Nat → Int32) (mnNum : Nat → Int32) (mnNam : Nat → Int32) (mnBo : Nat → Int32) (mnBn : Nat → Int32) (d : Int32) (hB0 : Blk w k (cM D α k mTaped mErr mPpl mBts mUs mRa mSt mKi mWd mVal mLet mFin mNp mNb mOuts mWant mFnd mTape mNum mNam mFst mBnm mW mUn mSl mKp mnNum mnNam mnBo mnBn)) (hy0 : vp_in mBts 7) : Met l yX12_outOn (ws_ yX12_outOn cX12_outOn 4 (some .int)) ({ frames := 2, cells := 0, slots := 0, locals := 43 }) (gPre D A [.ref (α (k)), .int d] w) (gR (some (.int (f_X12_outOn mBts mW d)))) 0 0 A := by
  refine g_met [(0, .ref (α (k))), (1, .int d)] (plainFor_of_name (by decide)) (Nat.le_of_ble_eq_true rfl) rfl (fun pg en s mi ar below me co ls S hK hP hD hE hS hr hlk hnm hl => ?_)
  have hbn := vin_lt (show vp_in mBts 7 by assumption)
  refine lv_iconst (v := 0) S.1 S.2.1 dX12_outOn_0 (by decide) ?_
  refine lv_istore_n (lv' := [(2, .int 0), (0, .ref (α (k))), (1, .int d)]) S.1 S.2.1 dX12_outOn_1 rfl hl (by decide) rfl (fun ls hl => ?_)
  refine lv_iconst (v := 0) S.1 S.2.1 dX12_outOn_2 (by decide) ?_
  refine lv_istore_n (lv' := [(3, .int 0), (2, .int 0), (0, .ref (α (k))), (1, .int d)]) S.1 S.2.1 dX12_outOn_3 rfl hl (by decide) rfl (fun ls hl => ?_)
  have lp4 : ∀ (j n : Nat), n + j = mBts.toNatClampNeg → ∀ (locs : List Loc) (ls : Array Slot), va_S A s.heap s.heap locs → lv_has ls 4 [(3, .int (nI n)), (2, .int (L_X12_outOn_4 mW d n)), (0, .ref (α (k))), (1, .int d)] → W pg l en ({ frames := 2, cells := 0, slots := 0, locals := 43 } : Room) s mi ar below me co s.heap locs 0 0 (MQ below (gR (some (.int (f_X12_outOn mBts mW d)))) ar s 0 0 A) (F0 mi 4 ls []) := by
    intro j
    induction j with
    | zero =>
      intro n hn locs ls hS hl
      have hn : mBts.toNatClampNeg = n := hn.symm
      subst hn
      refine lv_iload_n S.1 S.2.1 dX12_outOn_4 rfl (lv_at hl 0 rfl) ?_
      refine lv_aload_n S.1 S.2.1 dX12_outOn_5 rfl (lv_at hl 2 rfl) ?_
      refine g_get (v := .int mBts) S hK hP (hB0 0 _ rfl) rfl inX12 5 (by decide) qw1379 rfl dX12_outOn_6 ?_
      refine lv_icmp_ge (tgt := 44) S.1 S.2.1 dX12_outOn_9 (by decide) (fun (c1 : mBts ≤ (nI mBts.toNatClampNeg)) => ?_) (fun (c1 : ¬ mBts ≤ (nI mBts.toNatClampNeg)) => absurd c1 (lp_out (s := 0) ((Nat.max_eq_left (Nat.zero_le _)).symm)))
      refine lv_iload_n S.1 S.2.1 dX12_outOn_44 rfl (lv_at hl 1 rfl) ?_
      have hf : (f_X12_outOn mBts mW d) = (L_X12_outOn_4 mW d mBts.toNatClampNeg) := rfl
      exact g_iretR S hr hlk hS (by rw [hf] <;> rfl) dX12_outOn_45
    | succ j ih =>
      intro n hn locs ls hS hl
      refine lv_iload_n S.1 S.2.1 dX12_outOn_4 rfl (lv_at hl 0 rfl) ?_
      refine lv_aload_n S.1 S.2.1 dX12_outOn_5 rfl (lv_at hl 2 rfl) ?_
      refine g_get (v := .int mBts) S hK hP (hB0 0 _ rfl) rfl inX12 5 (by decide) qw1379 rfl dX12_outOn_6 ?_
      refine lv_icmp_ge (tgt := 44) S.1 S.2.1 dX12_outOn_9 (by decide) (fun (c2 : mBts ≤ (nI n)) => absurd c2 (lp_in (s := 0) (rfl) hn)) (fun (c2 : ¬ mBts ≤ (nI n)) => ?_)
      refine lv_iload_n S.1 S.2.1 dX12_outOn_12 rfl (lv_at hl 1 rfl) ?_
      refine lv_aload_n S.1 S.2.1 dX12_outOn_13 rfl (lv_at hl 2 rfl) ?_
      refine lv_iload_n S.1 S.2.1 dX12_outOn_14 rfl (lv_at hl 0 rfl) ?_
      refine g_aftR0 (st1 := [.int (b2i (f_X12_isOut mW (nI n))), .int (L_X12_outOn_4 mW d n)]) (g_V (As := [.int (nI n)]) (rest := [.int (L_X12_outOn_4 mW d n)]) S mi_X12_isOut qw1567 (c_X12_isOut l D A w α (k) mTaped mErr mPpl mBts mUs mRa mSt mKi mWd mVal mLet mFin mNp mNb mOuts mWant mFnd mTape mNum mNam mFst mBnm mW mUn mSl mKp mnNum mnNam mnBo mnBn (nI n) hB0 (by first | assumption | exact vin_d (by decide) | exact vp_in_nI (by omega) (by decide) | decide | omega)) hK hP hD hE hS (hB0 0 _ rfl) rfl rfl rfl hl.1 (Nat.le_of_ble_eq_true rfl) rfl rfl ⟨(Nat.le_of_ble_eq_true rfl), (Nat.le_of_ble_eq_true rfl)⟩ ⟨(Nat.le_of_ble_eq_true rfl), (Nat.le_of_ble_eq_true rfl)⟩ dX12_outOn_15) hS rfl (fun locs hS => ?_)
      refine g_bifeq (b := (f_X12_isOut mW (nI n))) (tgt := 35) S dX12_outOn_18 (by decide) (fun (c3 : (f_X12_isOut mW (nI n)) = false) => ?_) (fun (c3 : (f_X12_isOut mW (nI n)) = true) => ?_)
      · refine lv_iconst (v := 0) S.1 S.2.1 dX12_outOn_35 (by decide) ?_
        refine lv_iadd S.1 S.2.1 dX12_outOn_36 ?_
        refine lv_istore_n (lv' := [(2, .int ((L_X12_outOn_4 mW d n) + 0)), (3, .int (nI n)), (0, .ref (α (k))), (1, .int d)]) S.1 S.2.1 dX12_outOn_37 rfl hl (by decide) rfl (fun ls hl => ?_)
        refine lv_iinc (v := (nI (n + 1))) (lv' := [(3, .int (nI (n + 1))), (2, .int ((L_X12_outOn_4 mW d n) + 0)), (0, .ref (α (k))), (1, .int d)]) S.1 S.2.1 dX12_outOn_38 hl (k := 1) rfl ((nI_succ n).symm) (by decide) rfl (fun ls hl => ?_)
        refine lv_goto (tgt := 4) S.1 S.2.1 dX12_outOn_41 (by decide) ?_
        have hL : (L_X12_outOn_4 mW d (n + 1)) = ((L_X12_outOn_4 mW d n) + 0) := (iter_s _ _ _).trans (cd_f c3)
        refine ih (n + 1) (by omega) _ _ hS ?_
        rw [hL]; exact lv_sub hl [0, 1, 2, 3] rfl
      · refine lv_aload_n S.1 S.2.1 dX12_outOn_21 rfl (lv_at hl 2 rfl) ?_
        refine lv_iload_n S.1 S.2.1 dX12_outOn_22 rfl (lv_at hl 0 rfl) ?_
        refine lv_iconst (v := 1) S.1 S.2.1 dX12_outOn_23 (by decide) ?_
        refine g_aftR0 (st1 := [.int (f_X12_ofBoat mW (nI n) 1), .int (L_X12_outOn_4 mW d n)]) (g_V (As := [.int (nI n), .int 1]) (rest := [.int (L_X12_outOn_4 mW d n)]) S mi_X12_ofBoat qw1571 (c_X12_ofBoat l D A w α (k) mTaped mErr mPpl mBts mUs mRa mSt mKi mWd mVal mLet mFin mNp mNb mOuts mWant mFnd mTape mNum mNam mFst mBnm mW mUn mSl mKp mnNum mnNam mnBo mnBn (nI n) 1 hB0 (by first | assumption | exact vin_d (by decide) | exact vp_in_nI (by omega) (by decide) | decide | omega) (by first | assumption | exact vin_d (by decide) | exact vp_in_nI (by omega) (by decide) | decide | omega)) hK hP hD hE hS (hB0 0 _ rfl) rfl rfl rfl hl.1 (Nat.le_of_ble_eq_true rfl) rfl rfl ⟨(Nat.le_of_ble_eq_true rfl), (Nat.le_of_ble_eq_true rfl)⟩ ⟨(Nat.le_of_ble_eq_true rfl), (Nat.le_of_ble_eq_true rfl)⟩ dX12_outOn_24) hS rfl (fun locs hS => ?_)
        refine lv_iload_n S.1 S.2.1 dX12_outOn_27 rfl (lv_at hl 3 rfl) ?_
        refine lv_icmp_le (tgt := 35) S.1 S.2.1 dX12_outOn_28 (by decide) (fun (c4 : (f_X12_ofBoat mW (nI n) 1) ≤ d) => ?_) (fun (c4 : ¬ (f_X12_ofBoat mW (nI n) 1) ≤ d) => ?_)
        · refine lv_iconst (v := 0) S.1 S.2.1 dX12_outOn_35 (by decide) ?_
          refine lv_iadd S.1 S.2.1 dX12_outOn_36 ?_
          refine lv_istore_n (lv' := [(2, .int ((L_X12_outOn_4 mW d n) + 0)), (3, .int (nI n)), (0, .ref (α (k))), (1, .int d)]) S.1 S.2.1 dX12_outOn_37 rfl hl (by decide) rfl (fun ls hl => ?_)
          refine lv_iinc (v := (nI (n + 1))) (lv' := [(3, .int (nI (n + 1))), (2, .int ((L_X12_outOn_4 mW d n) + 0)), (0, .ref (α (k))), (1, .int d)]) S.1 S.2.1 dX12_outOn_38 hl (k := 1) rfl ((nI_succ n).symm) (by decide) rfl (fun ls hl => ?_)
          refine lv_goto (tgt := 4) S.1 S.2.1 dX12_outOn_41 (by decide) ?_
          have hL : (L_X12_outOn_4 mW d (n + 1)) = ((L_X12_outOn_4 mW d n) + 0) := (iter_s _ _ _).trans ((cd_t c3).trans (if_pos c4))
          refine ih (n + 1) (by omega) _ _ hS ?_
          rw [hL]; exact lv_sub hl [0, 1, 2, 3] rfl
        · refine lv_iconst (v := 1) S.1 S.2.1 dX12_outOn_31 (by decide) ?_
          refine lv_goto (tgt := 36) S.1 S.2.1 dX12_outOn_32 (by decide) ?_
          refine lv_iadd S.1 S.2.1 dX12_outOn_36 ?_
          refine lv_istore_n (lv' := [(2, .int ((L_X12_outOn_4 mW d n) + 1)), (3, .int (nI n)), (0, .ref (α (k))), (1, .int d)]) S.1 S.2.1 dX12_outOn_37 rfl hl (by decide) rfl (fun ls hl => ?_)
          refine lv_iinc (v := (nI (n + 1))) (lv' := [(3, .int (nI (n + 1))), (2, .int ((L_X12_outOn_4 mW d n) + 1)), (0, .ref (α (k))), (1, .int d)]) S.1 S.2.1 dX12_outOn_38 hl (k := 1) rfl ((nI_succ n).symm) (by decide) rfl (fun ls hl => ?_)
          refine lv_goto (tgt := 4) S.1 S.2.1 dX12_outOn_41 (by decide) ?_
          have hL : (L_X12_outOn_4 mW d (n + 1)) = ((L_X12_outOn_4 mW d n) + 1) := (iter_s _ _ _).trans ((cd_t c3).trans (if_neg c4))
          refine ih (n + 1) (by omega) _ _ hS ?_
          rw [hL]; exact lv_sub hl [0, 1, 2, 3] rfl
  have hL0 : (L_X12_outOn_4 mW d 0) = 0 := iter_z _ _
  exact lp4 mBts.toNatClampNeg 0 (Nat.zero_add _) _ _ hS (by rw [hL0]; exact lv_sub hl [0, 1, 2, 3] rfl)
def f_X12_needIn0 (mPpl : Int32) (mBts : Int32) (mNum : Nat → Int32) (mW : Nat → Int32) (x : Int32) : Int32 := (f_X12_needOn mPpl mNum ((mW 0) + x) (f_X12_outOn mBts mW ((mW 0) + x)))
set_option maxHeartbeats 4000000 in
set_option maxRecDepth 100000 in
theorem c_X12_needIn0 (l : Launch) (D : va_G) (A : Nat → Prop) (w : va_W) (α : Nat → Nat) (k : Nat) (mTaped : Int32) (mErr : Int32) (mPpl : Int32) (mBts : Int32) (mUs : Int32) (mRa : Int32) (mSt : Int32) (mKi : Int32) (mWd : Int64) (mVal : Int32) (mLet : Int32) (mFin : Int32) (mNp : Int32) (mNb : Int32) (mOuts : Int32) (mWant : Int32) (mFnd : Int32) (mTape : Nat → Int32) (mNum : Nat → Int32) (mNam : Nat → Int32) (mFst : Nat → Int32) (mBnm : Nat → Int32) (mW : Nat → Int32) (mUn : Nat → Int32) (mSl : Nat → Int32) (mKp : Nat → Int32) (mnNum : Nat → Int32) (mnNam : Nat → Int32) (mnBo : Nat → Int32) (mnBn : Nat → Int32) (x : Int32) (hB0 : Blk w k (cM D α k mTaped mErr mPpl mBts mUs mRa mSt mKi mWd mVal mLet mFin mNp mNb mOuts mWant mFnd mTape mNum mNam mFst mBnm mW mUn mSl mKp mnNum mnNam mnBo mnBn)) (hy0 : 0 ≤ mW 0 + x) (hy1 : 0 < mNum 0) (hy2 : vp_in mBts 7) : Met l yX12_needIn0 (ws_ yX12_needIn0 cX12_needIn0 3 (some .int)) ({ frames := 3, cells := 0, slots := 0, locals := 66 }) (gPre D A [.ref (α (k)), .int x] w) (gR (some (.int (f_X12_needIn0 mPpl mBts mNum mW x)))) 0 0 A := by
  refine g_met [(0, .ref (α (k))), (1, .int x)] (plainFor_of_name (by decide)) (Nat.le_of_ble_eq_true rfl) rfl (fun pg en s mi ar below me co ls S hK hP hD hE hS hr hlk hnm hl => ?_)
  refine lv_aload_n S.1 S.2.1 dX12_needIn0_0 rfl (lv_at hl 0 rfl) ?_
  refine g_get (v := .ref (α (k + 6))) S hK hP (hB0 0 _ rfl) rfl inX12 9 (by decide) qw1383 rfl dX12_needIn0_1 ?_
  refine lv_iconst (v := 0) S.1 S.2.1 dX12_needIn0_4 (by decide) ?_
  refine g_iald S hK hP (hB0 6 _ rfl) (by first | assumption | exact vin_d (by decide) | exact vp_in_nI (by omega) (by decide) | decide) dX12_needIn0_5 ?_
  refine lv_iload_n S.1 S.2.1 dX12_needIn0_6 rfl (lv_at hl 1 rfl) ?_
  refine lv_iadd S.1 S.2.1 dX12_needIn0_7 ?_
  refine lv_istore_n (lv' := [(2, .int ((mW 0) + x)), (0, .ref (α (k))), (1, .int x)]) S.1 S.2.1 dX12_needIn0_8 rfl hl (by decide) rfl (fun ls hl => ?_)
  refine lv_aload_n S.1 S.2.1 dX12_needIn0_9 rfl (lv_at hl 1 rfl) ?_
  refine lv_iload_n S.1 S.2.1 dX12_needIn0_10 rfl (lv_at hl 0 rfl) ?_
  refine lv_aload_n S.1 S.2.1 dX12_needIn0_11 rfl (lv_at hl 1 rfl) ?_
  refine lv_iload_n S.1 S.2.1 dX12_needIn0_12 rfl (lv_at hl 0 rfl) ?_
  refine g_aftR0 (st1 := [.int (f_X12_outOn mBts mW ((mW 0) + x)), .int ((mW 0) + x), .ref (α (k))]) (g_V (As := [.int ((mW 0) + x)]) (rest := [.int ((mW 0) + x), .ref (α (k))]) S mi_X12_outOn qw1700 (c_X12_outOn l D A w α (k) mTaped mErr mPpl mBts mUs mRa mSt mKi mWd mVal mLet mFin mNp mNb mOuts mWant mFnd mTape mNum mNam mFst mBnm mW mUn mSl mKp mnNum mnNam mnBo mnBn ((mW 0) + x) hB0 (by first | assumption | exact vin_d (by decide) | exact vp_in_nI (by omega) (by decide) | decide | omega)) hK hP hD hE hS (hB0 0 _ rfl) rfl rfl rfl hl.1 (Nat.le_of_ble_eq_true rfl) rfl rfl ⟨(Nat.le_of_ble_eq_true rfl), (Nat.le_of_ble_eq_true rfl)⟩ ⟨(Nat.le_of_ble_eq_true rfl), (Nat.le_of_ble_eq_true rfl)⟩ dX12_needIn0_13) hS rfl (fun locs hS => ?_)
  refine g_aftR0 (st1 := [.int (f_X12_needOn mPpl mNum ((mW 0) + x) (f_X12_outOn mBts mW ((mW 0) + x)))]) (g_V (As := [.int ((mW 0) + x), .int (f_X12_outOn mBts mW ((mW 0) + x))]) (rest := []) S mi_X12_needOn qw1704 (c_X12_needOn l D A w α (k) mTaped mErr mPpl mBts mUs mRa mSt mKi mWd mVal mLet mFin mNp mNb mOuts mWant mFnd mTape mNum mNam mFst mBnm mW mUn mSl mKp mnNum mnNam mnBo mnBn ((mW 0) + x) (f_X12_outOn mBts mW ((mW 0) + x)) hB0 (by first | assumption | exact vin_d (by decide) | exact vp_in_nI (by omega) (by decide) | decide | omega) (by first | assumption | exact vin_d (by decide) | exact vp_in_nI (by omega) (by decide) | decide | omega)) hK hP hD hE hS (hB0 0 _ rfl) rfl rfl rfl hl.1 (Nat.le_of_ble_eq_true rfl) rfl rfl ⟨(Nat.le_of_ble_eq_true rfl), (Nat.le_of_ble_eq_true rfl)⟩ ⟨(Nat.le_of_ble_eq_true rfl), (Nat.le_of_ble_eq_true rfl)⟩ dX12_needIn0_16) hS rfl (fun locs hS => ?_)
  have hf : (f_X12_needIn0 mPpl mBts mNum mW x) = (f_X12_needOn mPpl mNum ((mW 0) + x) (f_X12_outOn mBts mW ((mW 0) + x))) := rfl
  exact g_iretR S hr hlk hS (by rw [hf] <;> rfl) dX12_needIn0_19
def f_X12_isClosed (mW : Nat → Int32) : Bool := (if (mW 1) ≤ 0 then false else (bif (f_X12_isOpen mW) then false else true))
set_option maxHeartbeats 4000000 in
set_option maxRecDepth 100000 in
theorem c_X12_isClosed (l : Launch) (D : va_G) (A : Nat → Prop) (w : va_W) (α : Nat → Nat) (k : Nat) (mTaped : Int32) (mErr : Int32) (mPpl : Int32) (mBts : Int32) (mUs : Int32) (mRa : Int32) (mSt : Int32) (mKi : Int32) (mWd : Int64) (mVal : Int32) (mLet : Int32) (mFin : Int32) (mNp : Int32) (mNb : Int32) (mOuts : Int32) (mWant : Int32) (mFnd : Int32) (mTape : Nat → Int32) (mNum : Nat → Int32) (mNam : Nat → Int32) (mFst : Nat → Int32) (mBnm : Nat → Int32) (mW : Nat → Int32) (mUn : Nat → Int32) (mSl : Nat → Int32) (mKp : Nat → Int32) (mnNum : Nat → Int32) (mnNam : Nat → Int32) (mnBo : Nat → Int32) (mnBn : Nat → Int32) (hB0 : Blk w k (cM D α k mTaped mErr mPpl mBts mUs mRa mSt mKi mWd mVal mLet mFin mNp mNb mOuts mWant mFnd mTape mNum mNam mFst mBnm mW mUn mSl mKp mnNum mnNam mnBo mnBn)) : Met l yX12_isClosed (ws_ yX12_isClosed cX12_isClosed 1 (some .boolean)) ({ frames := 1, cells := 0, slots := 0, locals := 20 }) (gPre D A [.ref (α (k))] w) (gR (some (.int (b2i (f_X12_isClosed mW))))) 0 0 A := by
  refine g_met [(0, .ref (α (k)))] (plainFor_of_name (by decide)) (Nat.le_of_ble_eq_true rfl) rfl (fun pg en s mi ar below me co ls S hK hP hD hE hS hr hlk hnm hl => ?_)
  refine lv_aload_n S.1 S.2.1 dX12_isClosed_0 rfl (lv_at hl 0 rfl) ?_
  refine g_get (v := .ref (α (k + 6))) S hK hP (hB0 0 _ rfl) rfl inX12 9 (by decide) qw1383 rfl dX12_isClosed_1 ?_
  refine lv_iconst (v := 1) S.1 S.2.1 dX12_isClosed_4 (by decide) ?_
  refine g_iald S hK hP (hB0 6 _ rfl) (by first | assumption | exact vin_d (by decide) | exact vp_in_nI (by omega) (by decide) | decide) dX12_isClosed_5 ?_
  refine lv_if_le (tgt := 20) S.1 S.2.1 dX12_isClosed_6 (by decide) (fun (c1 : (mW 1) ≤ 0) => ?_) (fun (c1 : ¬ (mW 1) ≤ 0) => ?_)
  · refine lv_iconst (v := 0) S.1 S.2.1 dX12_isClosed_20 (by decide) ?_
    have hf : (f_X12_isClosed mW) = false := if_pos c1
    exact g_zretR S hr hlk hS rfl (by rw [hf] <;> rfl) dX12_isClosed_21
  · refine lv_aload_n S.1 S.2.1 dX12_isClosed_9 rfl (lv_at hl 0 rfl) ?_
    refine g_aftR0 (st1 := [.int (b2i (f_X12_isOpen mW))]) (g_V (As := []) (rest := []) S mi_X12_isOpen qw1621 (c_X12_isOpen l D A w α (k) mTaped mErr mPpl mBts mUs mRa mSt mKi mWd mVal mLet mFin mNp mNb mOuts mWant mFnd mTape mNum mNam mFst mBnm mW mUn mSl mKp mnNum mnNam mnBo mnBn hB0) hK hP hD hE hS (hB0 0 _ rfl) rfl rfl rfl hl.1 (Nat.le_of_ble_eq_true rfl) rfl rfl ⟨(Nat.le_of_ble_eq_true rfl), (Nat.le_of_ble_eq_true rfl)⟩ ⟨(Nat.le_of_ble_eq_true rfl), (Nat.le_of_ble_eq_true rfl)⟩ dX12_isClosed_10) hS rfl (fun locs hS => ?_)
    refine g_bifne (b := (f_X12_isOpen mW)) (tgt := 20) S dX12_isClosed_13 (by decide) (fun (c2 : (f_X12_isOpen mW) = true) => ?_) (fun (c2 : (f_X12_isOpen mW) = false) => ?_)
    · refine lv_iconst (v := 0) S.1 S.2.1 dX12_isClosed_20 (by decide) ?_
      have hf : (f_X12_isClosed mW) = false := (if_neg c1).trans (cd_t c2)
      exact g_zretR S hr hlk hS rfl (by rw [hf] <;> rfl) dX12_isClosed_21
    · refine lv_iconst (v := 1) S.1 S.2.1 dX12_isClosed_16 (by decide) ?_
      refine lv_goto (tgt := 21) S.1 S.2.1 dX12_isClosed_17 (by decide) ?_
      have hf : (f_X12_isClosed mW) = true := (if_neg c1).trans (cd_f c2)
      exact g_zretR S hr hlk hS rfl (by rw [hf] <;> rfl) dX12_isClosed_21
def f_X12_needNow (mPpl : Int32) (mBts : Int32) (mNum : Nat → Int32) (mW : Nat → Int32) : Int32 := (bif (f_X12_isClosed mW) then (mW 4) else (f_X12_needIn0 mPpl mBts mNum mW 0))
set_option maxHeartbeats 4000000 in
set_option maxRecDepth 100000 in
theorem c_X12_needNow (l : Launch) (D : va_G) (A : Nat → Prop) (w : va_W) (α : Nat → Nat) (k : Nat) (mTaped : Int32) (mErr : Int32) (mPpl : Int32) (mBts : Int32) (mUs : Int32) (mRa : Int32) (mSt : Int32) (mKi : Int32) (mWd : Int64) (mVal : Int32) (mLet : Int32) (mFin : Int32) (mNp : Int32) (mNb : Int32) (mOuts : Int32) (mWant : Int32) (mFnd : Int32) (mTape : Nat → Int32) (mNum : Nat → Int32) (mNam : Nat → Int32) (mFst : Nat → Int32) (mBnm : Nat → Int32) (mW : Nat → Int32) (mUn : Nat → Int32) (mSl : Nat → Int32) (mKp : Nat → Int32) (mnNum : Nat → Int32) (mnNam : Nat → Int32) (mnBo : Nat → Int32) (mnBn : Nat → Int32) (hB0 : Blk w k (cM D α k mTaped mErr mPpl mBts mUs mRa mSt mKi mWd mVal mLet mFin mNp mNb mOuts mWant mFnd mTape mNum mNam mFst mBnm mW mUn mSl mKp mnNum mnNam mnBo mnBn)) (hy0 : 0 ≤ mW 0) (hy1 : 0 < mNum 0) (hy2 : vp_in mBts 7) : Met l yX12_needNow (ws_ yX12_needNow cX12_needNow 1 (some .int)) ({ frames := 4, cells := 0, slots := 0, locals := 88 }) (gPre D A [.ref (α (k))] w) (gR (some (.int (f_X12_needNow mPpl mBts mNum mW)))) 0 0 A := by
  refine g_met [(0, .ref (α (k)))] (plainFor_of_name (by decide)) (Nat.le_of_ble_eq_true rfl) rfl (fun pg en s mi ar below me co ls S hK hP hD hE hS hr hlk hnm hl => ?_)
  refine lv_aload_n S.1 S.2.1 dX12_needNow_0 rfl (lv_at hl 0 rfl) ?_
  refine g_aftR0 (st1 := [.int (b2i (f_X12_isClosed mW))]) (g_V (As := []) (rest := []) S mi_X12_isClosed qw1680 (c_X12_isClosed l D A w α (k) mTaped mErr mPpl mBts mUs mRa mSt mKi mWd mVal mLet mFin mNp mNb mOuts mWant mFnd mTape mNum mNam mFst mBnm mW mUn mSl mKp mnNum mnNam mnBo mnBn hB0) hK hP hD hE hS (hB0 0 _ rfl) rfl rfl rfl hl.1 (Nat.le_of_ble_eq_true rfl) rfl rfl ⟨(Nat.le_of_ble_eq_true rfl), (Nat.le_of_ble_eq_true rfl)⟩ ⟨(Nat.le_of_ble_eq_true rfl), (Nat.le_of_ble_eq_true rfl)⟩ dX12_needNow_1) hS rfl (fun locs hS => ?_)
  refine g_bifeq (b := (f_X12_isClosed mW)) (tgt := 16) S dX12_needNow_4 (by decide) (fun (c1 : (f_X12_isClosed mW) = false) => ?_) (fun (c1 : (f_X12_isClosed mW) = true) => ?_)
  · refine lv_aload_n S.1 S.2.1 dX12_needNow_16 rfl (lv_at hl 0 rfl) ?_
    refine lv_iconst (v := 0) S.1 S.2.1 dX12_needNow_17 (by decide) ?_
    refine g_aftR0 (st1 := [.int (f_X12_needIn0 mPpl mBts mNum mW 0)]) (g_V (As := [.int 0]) (rest := []) S mi_X12_needIn0 qw1696 (c_X12_needIn0 l D A w α (k) mTaped mErr mPpl mBts mUs mRa mSt mKi mWd mVal mLet mFin mNp mNb mOuts mWant mFnd mTape mNum mNam mFst mBnm mW mUn mSl mKp mnNum mnNam mnBo mnBn 0 hB0 (by rw [Int32.add_zero]; exact hy0) (by first | assumption | exact vin_d (by decide) | exact vp_in_nI (by omega) (by decide) | decide | omega) (by first | assumption | exact vin_d (by decide) | exact vp_in_nI (by omega) (by decide) | decide | omega)) hK hP hD hE hS (hB0 0 _ rfl) rfl rfl rfl hl.1 (Nat.le_of_ble_eq_true rfl) rfl rfl ⟨(Nat.le_of_ble_eq_true rfl), (Nat.le_of_ble_eq_true rfl)⟩ ⟨(Nat.le_of_ble_eq_true rfl), (Nat.le_of_ble_eq_true rfl)⟩ dX12_needNow_18) hS rfl (fun locs hS => ?_)
    have hf : (f_X12_needNow mPpl mBts mNum mW) = (f_X12_needIn0 mPpl mBts mNum mW 0) := cd_f c1
    exact g_iretR S hr hlk hS (by rw [hf] <;> rfl) dX12_needNow_21
  · refine lv_aload_n S.1 S.2.1 dX12_needNow_7 rfl (lv_at hl 0 rfl) ?_
    refine g_get (v := .ref (α (k + 6))) S hK hP (hB0 0 _ rfl) rfl inX12 9 (by decide) qw1383 rfl dX12_needNow_8 ?_
    refine lv_iconst (v := 4) S.1 S.2.1 dX12_needNow_11 (by decide) ?_
    refine g_iald S hK hP (hB0 6 _ rfl) (by first | assumption | exact vin_d (by decide) | exact vp_in_nI (by omega) (by decide) | decide) dX12_needNow_12 ?_
    refine lv_goto (tgt := 21) S.1 S.2.1 dX12_needNow_13 (by decide) ?_
    have hf : (f_X12_needNow mPpl mBts mNum mW) = (mW 4) := cd_t c1
    exact g_iretR S hr hlk hS (by rw [hf] <;> rfl) dX12_needNow_21
def f_X12_isInTime (mNum : Nat → Int32) (mW : Nat → Int32) : Bool := (bif (f_X12_isOpen mW) then true else (bif (f_X12_isClosed mW) then (if (mNum 8) < ((mW 0) - (mW 5)) then false else true) else false))
set_option maxHeartbeats 4000000 in
set_option maxRecDepth 100000 in
theorem c_X12_isInTime (l : Launch) (D : va_G) (A : Nat → Prop) (w : va_W) (α : Nat → Nat) (k : Nat) (mTaped : Int32) (mErr : Int32) (mPpl : Int32) (mBts : Int32) (mUs : Int32) (mRa : Int32) (mSt : Int32) (mKi : Int32) (mWd : Int64) (mVal : Int32) (mLet : Int32) (mFin : Int32) (mNp : Int32) (mNb : Int32) (mOuts : Int32) (mWant : Int32) (mFnd : Int32) (mTape : Nat → Int32) (mNum : Nat → Int32) (mNam : Nat → Int32) (mFst : Nat → Int32) (mBnm : Nat → Int32) (mW : Nat → Int32) (mUn : Nat → Int32) (mSl : Nat → Int32) (mKp : Nat → Int32) (mnNum : Nat → Int32) (mnNam : Nat → Int32) (mnBo : Nat → Int32) (mnBn : Nat → Int32) (hB0 : Blk w k (cM D α k mTaped mErr mPpl mBts mUs mRa mSt mKi mWd mVal mLet mFin mNp mNb mOuts mWant mFnd mTape mNum mNam mFst mBnm mW mUn mSl mKp mnNum mnNam mnBo mnBn)) : Met l yX12_isInTime (ws_ yX12_isInTime cX12_isInTime 1 (some .boolean)) ({ frames := 2, cells := 0, slots := 0, locals := 40 }) (gPre D A [.ref (α (k))] w) (gR (some (.int (b2i (f_X12_isInTime mNum mW))))) 0 0 A := by
  refine g_met [(0, .ref (α (k)))] (plainFor_of_name (by decide)) (Nat.le_of_ble_eq_true rfl) rfl (fun pg en s mi ar below me co ls S hK hP hD hE hS hr hlk hnm hl => ?_)
  refine lv_aload_n S.1 S.2.1 dX12_isInTime_0 rfl (lv_at hl 0 rfl) ?_
  refine g_aftR0 (st1 := [.int (b2i (f_X12_isOpen mW))]) (g_V (As := []) (rest := []) S mi_X12_isOpen qw1621 (c_X12_isOpen l D A w α (k) mTaped mErr mPpl mBts mUs mRa mSt mKi mWd mVal mLet mFin mNp mNb mOuts mWant mFnd mTape mNum mNam mFst mBnm mW mUn mSl mKp mnNum mnNam mnBo mnBn hB0) hK hP hD hE hS (hB0 0 _ rfl) rfl rfl rfl hl.1 (Nat.le_of_ble_eq_true rfl) rfl rfl ⟨(Nat.le_of_ble_eq_true rfl), (Nat.le_of_ble_eq_true rfl)⟩ ⟨(Nat.le_of_ble_eq_true rfl), (Nat.le_of_ble_eq_true rfl)⟩ dX12_isInTime_1) hS rfl (fun locs hS => ?_)
  refine g_bifne (b := (f_X12_isOpen mW)) (tgt := 37) S dX12_isInTime_4 (by decide) (fun (c1 : (f_X12_isOpen mW) = true) => ?_) (fun (c1 : (f_X12_isOpen mW) = false) => ?_)
  · refine lv_iconst (v := 1) S.1 S.2.1 dX12_isInTime_37 (by decide) ?_
    refine lv_goto (tgt := 42) S.1 S.2.1 dX12_isInTime_38 (by decide) ?_
    have hf : (f_X12_isInTime mNum mW) = true := cd_t c1
    exact g_zretR S hr hlk hS rfl (by rw [hf] <;> rfl) dX12_isInTime_42
  · refine lv_aload_n S.1 S.2.1 dX12_isInTime_7 rfl (lv_at hl 0 rfl) ?_
    refine g_aftR0 (st1 := [.int (b2i (f_X12_isClosed mW))]) (g_V (As := []) (rest := []) S mi_X12_isClosed qw1680 (c_X12_isClosed l D A w α (k) mTaped mErr mPpl mBts mUs mRa mSt mKi mWd mVal mLet mFin mNp mNb mOuts mWant mFnd mTape mNum mNam mFst mBnm mW mUn mSl mKp mnNum mnNam mnBo mnBn hB0) hK hP hD hE hS (hB0 0 _ rfl) rfl rfl rfl hl.1 (Nat.le_of_ble_eq_true rfl) rfl rfl ⟨(Nat.le_of_ble_eq_true rfl), (Nat.le_of_ble_eq_true rfl)⟩ ⟨(Nat.le_of_ble_eq_true rfl), (Nat.le_of_ble_eq_true rfl)⟩ dX12_isInTime_8) hS rfl (fun locs hS => ?_)
    refine g_bifeq (b := (f_X12_isClosed mW)) (tgt := 41) S dX12_isInTime_11 (by decide) (fun (c2 : (f_X12_isClosed mW) = false) => ?_) (fun (c2 : (f_X12_isClosed mW) = true) => ?_)
    · refine lv_iconst (v := 0) S.1 S.2.1 dX12_isInTime_41 (by decide) ?_
      have hf : (f_X12_isInTime mNum mW) = false := (cd_f c1).trans (cd_f c2)
      exact g_zretR S hr hlk hS rfl (by rw [hf] <;> rfl) dX12_isInTime_42
    · refine lv_aload_n S.1 S.2.1 dX12_isInTime_14 rfl (lv_at hl 0 rfl) ?_
      refine g_get (v := .ref (α (k + 6))) S hK hP (hB0 0 _ rfl) rfl inX12 9 (by decide) qw1383 rfl dX12_isInTime_15 ?_
      refine lv_iconst (v := 0) S.1 S.2.1 dX12_isInTime_18 (by decide) ?_
      refine g_iald S hK hP (hB0 6 _ rfl) (by first | assumption | exact vin_d (by decide) | exact vp_in_nI (by omega) (by decide) | decide) dX12_isInTime_19 ?_
      refine lv_aload_n S.1 S.2.1 dX12_isInTime_20 rfl (lv_at hl 0 rfl) ?_
      refine g_get (v := .ref (α (k + 6))) S hK hP (hB0 0 _ rfl) rfl inX12 9 (by decide) qw1383 rfl dX12_isInTime_21 ?_
      refine lv_iconst (v := 5) S.1 S.2.1 dX12_isInTime_24 (by decide) ?_
      refine g_iald S hK hP (hB0 6 _ rfl) (by first | assumption | exact vin_d (by decide) | exact vp_in_nI (by omega) (by decide) | decide) dX12_isInTime_25 ?_
      refine lv_isub S.1 S.2.1 dX12_isInTime_26 ?_
      refine lv_aload_n S.1 S.2.1 dX12_isInTime_27 rfl (lv_at hl 0 rfl) ?_
      refine g_get (v := .ref (α (k + 2))) S hK hP (hB0 0 _ rfl) rfl inX12 3 (by decide) qw1377 rfl dX12_isInTime_28 ?_
      refine lv_bipush (v := 8) S.1 S.2.1 dX12_isInTime_31 (by decide) ?_
      refine g_iald S hK hP (hB0 2 _ rfl) (by first | assumption | exact vin_d (by decide) | exact vp_in_nI (by omega) (by decide) | decide) dX12_isInTime_33 ?_
      refine lv_icmp_gt (tgt := 41) S.1 S.2.1 dX12_isInTime_34 (by decide) (fun (c3 : (mNum 8) < ((mW 0) - (mW 5))) => ?_) (fun (c3 : ¬ (mNum 8) < ((mW 0) - (mW 5))) => ?_)
      · refine lv_iconst (v := 0) S.1 S.2.1 dX12_isInTime_41 (by decide) ?_
        have hf : (f_X12_isInTime mNum mW) = false := (cd_f c1).trans ((cd_t c2).trans (if_pos c3))
        exact g_zretR S hr hlk hS rfl (by rw [hf] <;> rfl) dX12_isInTime_42
      · refine lv_iconst (v := 1) S.1 S.2.1 dX12_isInTime_37 (by decide) ?_
        refine lv_goto (tgt := 42) S.1 S.2.1 dX12_isInTime_38 (by decide) ?_
        have hf : (f_X12_isInTime mNum mW) = true := (cd_f c1).trans ((cd_t c2).trans (if_neg c3))
        exact g_zretR S hr hlk hS rfl (by rw [hf] <;> rfl) dX12_isInTime_42
def f_X12_orMinus (x : Int32) : Int32 := (if 0 ≤ x then x else (-1))
set_option maxHeartbeats 4000000 in
set_option maxRecDepth 100000 in
theorem c_X12_orMinus (l : Launch) (D : va_G) (A : Nat → Prop) (w : va_W) (α : Nat → Nat) (x : Int32) : Met l yX12_orMinus (ws_ yX12_orMinus cX12_orMinus 1 (some .int)) ({ frames := 0, cells := 0, slots := 0, locals := 0 }) (gPre D A [.int x] w) (gR (some (.int (f_X12_orMinus x)))) 0 0 A := by
  refine g_met [(0, .int x)] (plainFor_of_name (by decide)) (Nat.le_of_ble_eq_true rfl) rfl (fun pg en s mi ar below me co ls S hK hP hD hE hS hr hlk hnm hl => ?_)
  refine lv_iload_n S.1 S.2.1 dX12_orMinus_0 rfl (lv_at hl 0 rfl) ?_
  refine lv_if_ge (tgt := 8) S.1 S.2.1 dX12_orMinus_1 (by decide) (fun (c1 : 0 ≤ x) => ?_) (fun (c1 : ¬ 0 ≤ x) => ?_)
  · refine lv_iload_n S.1 S.2.1 dX12_orMinus_8 rfl (lv_at hl 0 rfl) ?_
    have hf : (f_X12_orMinus x) = x := if_pos c1
    exact g_iretR S hr hlk hS (by rw [hf] <;> rfl) dX12_orMinus_9
  · refine lv_iconst (v := (-1)) S.1 S.2.1 dX12_orMinus_4 (by decide) ?_
    refine lv_goto (tgt := 9) S.1 S.2.1 dX12_orMinus_5 (by decide) ?_
    have hf : (f_X12_orMinus x) = (-1) := if_neg c1
    exact g_iretR S hr hlk hS (by rw [hf] <;> rfl) dX12_orMinus_9
def L_X12_atSeaMany_4 (mW : Nat → Int32) : Nat → Int32 := iter_ (fun n sn => (bif (f_X12_isAtSea mW (nI n)) then (sn + 1) else (sn + 0))) 0
def f_X12_atSeaMany (mPpl : Int32) (mW : Nat → Int32) : Int32 := (L_X12_atSeaMany_4 mW mPpl.toNatClampNeg)
set_option maxHeartbeats 4000000 in
set_option maxRecDepth 100000 in
theorem c_X12_atSeaMany (l : Launch) (D : va_G) (A : Nat → Prop) (w : va_W) (α : Nat → Nat) (k : Nat) (mTaped : Int32) (mErr : Int32) (mPpl : Int32) (mBts : Int32) (mUs : Int32) (mRa : Int32) (mSt : Int32) (mKi : Int32) (mWd : Int64) (mVal : Int32) (mLet : Int32) (mFin : Int32) (mNp : Int32) (mNb : Int32) (mOuts : Int32) (mWant : Int32) (mFnd : Int32) (mTape : Nat → Int32) (mNum : Nat → Int32) (mNam : Nat → Int32) (mFst : Nat → Int32) (mBnm : Nat → Int32) (mW : Nat → Int32) (mUn : Nat → Int32) (mSl : Nat → Int32) (mKp : Nat → Int32) (mnNum : Nat → Int32) (mnNam : Nat → Int32) (mnBo : Nat → Int32) (mnBn : Nat → Int32) (hB0 : Blk w k (cM D α k mTaped mErr mPpl mBts mUs mRa mSt mKi mWd mVal mLet mFin mNp mNb mOuts mWant mFnd mTape mNum mNam mFst mBnm mW mUn mSl mKp mnNum mnNam mnBo mnBn)) (hy0 : vp_in mPpl 21) : Met l yX12_atSeaMany (ws_ yX12_atSeaMany cX12_atSeaMany 3 (some .int)) ({ frames := 2, cells := 0, slots := 0, locals := 43 }) (gPre D A [.ref (α (k))] w) (gR (some (.int (f_X12_atSeaMany mPpl mW)))) 0 0 A := by
  refine g_met [(0, .ref (α (k)))] (plainFor_of_name (by decide)) (Nat.le_of_ble_eq_true rfl) rfl (fun pg en s mi ar below me co ls S hK hP hD hE hS hr hlk hnm hl => ?_)
  have hpn := vin_lt (show vp_in mPpl 21 by assumption)
  refine lv_iconst (v := 0) S.1 S.2.1 dX12_atSeaMany_0 (by decide) ?_
  refine lv_istore_n (lv' := [(1, .int 0), (0, .ref (α (k)))]) S.1 S.2.1 dX12_atSeaMany_1 rfl hl (by decide) rfl (fun ls hl => ?_)
  refine lv_iconst (v := 0) S.1 S.2.1 dX12_atSeaMany_2 (by decide) ?_
  refine lv_istore_n (lv' := [(2, .int 0), (1, .int 0), (0, .ref (α (k)))]) S.1 S.2.1 dX12_atSeaMany_3 rfl hl (by decide) rfl (fun ls hl => ?_)
  have lp4 : ∀ (j n : Nat), n + j = mPpl.toNatClampNeg → ∀ (locs : List Loc) (ls : Array Slot), va_S A s.heap s.heap locs → lv_has ls 3 [(2, .int (nI n)), (1, .int (L_X12_atSeaMany_4 mW n)), (0, .ref (α (k)))] → W pg l en ({ frames := 2, cells := 0, slots := 0, locals := 43 } : Room) s mi ar below me co s.heap locs 0 0 (MQ below (gR (some (.int (f_X12_atSeaMany mPpl mW)))) ar s 0 0 A) (F0 mi 4 ls []) := by
    intro j
    induction j with
    | zero =>
      intro n hn locs ls hS hl
      have hn : mPpl.toNatClampNeg = n := hn.symm
      subst hn
      refine lv_iload_n S.1 S.2.1 dX12_atSeaMany_4 rfl (lv_at hl 0 rfl) ?_
      refine lv_aload_n S.1 S.2.1 dX12_atSeaMany_5 rfl (lv_at hl 2 rfl) ?_
      refine g_get (v := .int mPpl) S hK hP (hB0 0 _ rfl) rfl inX12 4 (by decide) qw1378 rfl dX12_atSeaMany_6 ?_
      refine lv_icmp_ge (tgt := 34) S.1 S.2.1 dX12_atSeaMany_9 (by decide) (fun (c1 : mPpl ≤ (nI mPpl.toNatClampNeg)) => ?_) (fun (c1 : ¬ mPpl ≤ (nI mPpl.toNatClampNeg)) => absurd c1 (lp_out (s := 0) ((Nat.max_eq_left (Nat.zero_le _)).symm)))
      refine lv_iload_n S.1 S.2.1 dX12_atSeaMany_34 rfl (lv_at hl 1 rfl) ?_
      have hf : (f_X12_atSeaMany mPpl mW) = (L_X12_atSeaMany_4 mW mPpl.toNatClampNeg) := rfl
      exact g_iretR S hr hlk hS (by rw [hf] <;> rfl) dX12_atSeaMany_35
    | succ j ih =>
      intro n hn locs ls hS hl
      refine lv_iload_n S.1 S.2.1 dX12_atSeaMany_4 rfl (lv_at hl 0 rfl) ?_
      refine lv_aload_n S.1 S.2.1 dX12_atSeaMany_5 rfl (lv_at hl 2 rfl) ?_
      refine g_get (v := .int mPpl) S hK hP (hB0 0 _ rfl) rfl inX12 4 (by decide) qw1378 rfl dX12_atSeaMany_6 ?_
      refine lv_icmp_ge (tgt := 34) S.1 S.2.1 dX12_atSeaMany_9 (by decide) (fun (c2 : mPpl ≤ (nI n)) => absurd c2 (lp_in (s := 0) (rfl) hn)) (fun (c2 : ¬ mPpl ≤ (nI n)) => ?_)
      refine lv_iload_n S.1 S.2.1 dX12_atSeaMany_12 rfl (lv_at hl 1 rfl) ?_
      refine lv_aload_n S.1 S.2.1 dX12_atSeaMany_13 rfl (lv_at hl 2 rfl) ?_
      refine lv_iload_n S.1 S.2.1 dX12_atSeaMany_14 rfl (lv_at hl 0 rfl) ?_
      refine g_aftR0 (st1 := [.int (b2i (f_X12_isAtSea mW (nI n))), .int (L_X12_atSeaMany_4 mW n)]) (g_V (As := [.int (nI n)]) (rest := [.int (L_X12_atSeaMany_4 mW n)]) S mi_X12_isAtSea qw1583 (c_X12_isAtSea l D A w α (k) mTaped mErr mPpl mBts mUs mRa mSt mKi mWd mVal mLet mFin mNp mNb mOuts mWant mFnd mTape mNum mNam mFst mBnm mW mUn mSl mKp mnNum mnNam mnBo mnBn (nI n) hB0 (by first | assumption | exact vin_d (by decide) | exact vp_in_nI (by omega) (by decide) | decide | omega)) hK hP hD hE hS (hB0 0 _ rfl) rfl rfl rfl hl.1 (Nat.le_of_ble_eq_true rfl) rfl rfl ⟨(Nat.le_of_ble_eq_true rfl), (Nat.le_of_ble_eq_true rfl)⟩ ⟨(Nat.le_of_ble_eq_true rfl), (Nat.le_of_ble_eq_true rfl)⟩ dX12_atSeaMany_15) hS rfl (fun locs hS => ?_)
      refine g_bifeq (b := (f_X12_isAtSea mW (nI n))) (tgt := 25) S dX12_atSeaMany_18 (by decide) (fun (c3 : (f_X12_isAtSea mW (nI n)) = false) => ?_) (fun (c3 : (f_X12_isAtSea mW (nI n)) = true) => ?_)
      · refine lv_iconst (v := 0) S.1 S.2.1 dX12_atSeaMany_25 (by decide) ?_
        refine lv_iadd S.1 S.2.1 dX12_atSeaMany_26 ?_
        refine lv_istore_n (lv' := [(1, .int ((L_X12_atSeaMany_4 mW n) + 0)), (2, .int (nI n)), (0, .ref (α (k)))]) S.1 S.2.1 dX12_atSeaMany_27 rfl hl (by decide) rfl (fun ls hl => ?_)
        refine lv_iinc (v := (nI (n + 1))) (lv' := [(2, .int (nI (n + 1))), (1, .int ((L_X12_atSeaMany_4 mW n) + 0)), (0, .ref (α (k)))]) S.1 S.2.1 dX12_atSeaMany_28 hl (k := 1) rfl ((nI_succ n).symm) (by decide) rfl (fun ls hl => ?_)
        refine lv_goto (tgt := 4) S.1 S.2.1 dX12_atSeaMany_31 (by decide) ?_
        have hL : (L_X12_atSeaMany_4 mW (n + 1)) = ((L_X12_atSeaMany_4 mW n) + 0) := (iter_s _ _ _).trans (cd_f c3)
        refine ih (n + 1) (by omega) _ _ hS ?_
        rw [hL]; exact lv_sub hl [0, 1, 2] rfl
      · refine lv_iconst (v := 1) S.1 S.2.1 dX12_atSeaMany_21 (by decide) ?_
        refine lv_goto (tgt := 26) S.1 S.2.1 dX12_atSeaMany_22 (by decide) ?_
        refine lv_iadd S.1 S.2.1 dX12_atSeaMany_26 ?_
        refine lv_istore_n (lv' := [(1, .int ((L_X12_atSeaMany_4 mW n) + 1)), (2, .int (nI n)), (0, .ref (α (k)))]) S.1 S.2.1 dX12_atSeaMany_27 rfl hl (by decide) rfl (fun ls hl => ?_)
        refine lv_iinc (v := (nI (n + 1))) (lv' := [(2, .int (nI (n + 1))), (1, .int ((L_X12_atSeaMany_4 mW n) + 1)), (0, .ref (α (k)))]) S.1 S.2.1 dX12_atSeaMany_28 hl (k := 1) rfl ((nI_succ n).symm) (by decide) rfl (fun ls hl => ?_)
        refine lv_goto (tgt := 4) S.1 S.2.1 dX12_atSeaMany_31 (by decide) ?_
        have hL : (L_X12_atSeaMany_4 mW (n + 1)) = ((L_X12_atSeaMany_4 mW n) + 1) := (iter_s _ _ _).trans (cd_t c3)
        refine ih (n + 1) (by omega) _ _ hS ?_
        rw [hL]; exact lv_sub hl [0, 1, 2] rfl
  have hL0 : (L_X12_atSeaMany_4 mW 0) = 0 := iter_z _ _
  exact lp4 mPpl.toNatClampNeg 0 (Nat.zero_add _) _ _ hS (by rw [hL0]; exact lv_sub hl [0, 1, 2] rfl)
def f_X12_stateOf (mNum : Nat → Int32) (mW : Nat → Int32) : Int32 := (if (mW 1) = 0 then 0 else (bif (f_X12_isOpen mW) then 1 else (bif (f_X12_isInTime mNum mW) then 2 else 3)))
set_option maxHeartbeats 4000000 in
set_option maxRecDepth 100000 in
theorem c_X12_stateOf (l : Launch) (D : va_G) (A : Nat → Prop) (w : va_W) (α : Nat → Nat) (k : Nat) (mTaped : Int32) (mErr : Int32) (mPpl : Int32) (mBts : Int32) (mUs : Int32) (mRa : Int32) (mSt : Int32) (mKi : Int32) (mWd : Int64) (mVal : Int32) (mLet : Int32) (mFin : Int32) (mNp : Int32) (mNb : Int32) (mOuts : Int32) (mWant : Int32) (mFnd : Int32) (mTape : Nat → Int32) (mNum : Nat → Int32) (mNam : Nat → Int32) (mFst : Nat → Int32) (mBnm : Nat → Int32) (mW : Nat → Int32) (mUn : Nat → Int32) (mSl : Nat → Int32) (mKp : Nat → Int32) (mnNum : Nat → Int32) (mnNam : Nat → Int32) (mnBo : Nat → Int32) (mnBn : Nat → Int32) (hB0 : Blk w k (cM D α k mTaped mErr mPpl mBts mUs mRa mSt mKi mWd mVal mLet mFin mNp mNb mOuts mWant mFnd mTape mNum mNam mFst mBnm mW mUn mSl mKp mnNum mnNam mnBo mnBn)) : Met l yX12_stateOf (ws_ yX12_stateOf cX12_stateOf 1 (some .int)) ({ frames := 3, cells := 0, slots := 0, locals := 60 }) (gPre D A [.ref (α (k))] w) (gR (some (.int (f_X12_stateOf mNum mW)))) 0 0 A := by
  refine g_met [(0, .ref (α (k)))] (plainFor_of_name (by decide)) (Nat.le_of_ble_eq_true rfl) rfl (fun pg en s mi ar below me co ls S hK hP hD hE hS hr hlk hnm hl => ?_)
  refine lv_aload_n S.1 S.2.1 dX12_stateOf_0 rfl (lv_at hl 0 rfl) ?_
  refine g_get (v := .ref (α (k + 6))) S hK hP (hB0 0 _ rfl) rfl inX12 9 (by decide) qw1383 rfl dX12_stateOf_1 ?_
  refine lv_iconst (v := 1) S.1 S.2.1 dX12_stateOf_4 (by decide) ?_
  refine g_iald S hK hP (hB0 6 _ rfl) (by first | assumption | exact vin_d (by decide) | exact vp_in_nI (by omega) (by decide) | decide) dX12_stateOf_5 ?_
  refine lv_if_ne (tgt := 13) S.1 S.2.1 dX12_stateOf_6 (by decide) (fun (c1 : ¬ (mW 1) = 0) => ?_) (fun (c1 : (mW 1) = 0) => ?_)
  · refine lv_aload_n S.1 S.2.1 dX12_stateOf_13 rfl (lv_at hl 0 rfl) ?_
    refine g_aftR0 (st1 := [.int (b2i (f_X12_isOpen mW))]) (g_V (As := []) (rest := []) S mi_X12_isOpen qw1621 (c_X12_isOpen l D A w α (k) mTaped mErr mPpl mBts mUs mRa mSt mKi mWd mVal mLet mFin mNp mNb mOuts mWant mFnd mTape mNum mNam mFst mBnm mW mUn mSl mKp mnNum mnNam mnBo mnBn hB0) hK hP hD hE hS (hB0 0 _ rfl) rfl rfl rfl hl.1 (Nat.le_of_ble_eq_true rfl) rfl rfl ⟨(Nat.le_of_ble_eq_true rfl), (Nat.le_of_ble_eq_true rfl)⟩ ⟨(Nat.le_of_ble_eq_true rfl), (Nat.le_of_ble_eq_true rfl)⟩ dX12_stateOf_14) hS rfl (fun locs hS => ?_)
    refine g_bifeq (b := (f_X12_isOpen mW)) (tgt := 24) S dX12_stateOf_17 (by decide) (fun (c2 : (f_X12_isOpen mW) = false) => ?_) (fun (c2 : (f_X12_isOpen mW) = true) => ?_)
    · refine lv_aload_n S.1 S.2.1 dX12_stateOf_24 rfl (lv_at hl 0 rfl) ?_
      refine g_aftR0 (st1 := [.int (b2i (f_X12_isInTime mNum mW))]) (g_V (As := []) (rest := []) S mi_X12_isInTime qw1676 (c_X12_isInTime l D A w α (k) mTaped mErr mPpl mBts mUs mRa mSt mKi mWd mVal mLet mFin mNp mNb mOuts mWant mFnd mTape mNum mNam mFst mBnm mW mUn mSl mKp mnNum mnNam mnBo mnBn hB0) hK hP hD hE hS (hB0 0 _ rfl) rfl rfl rfl hl.1 (Nat.le_of_ble_eq_true rfl) rfl rfl ⟨(Nat.le_of_ble_eq_true rfl), (Nat.le_of_ble_eq_true rfl)⟩ ⟨(Nat.le_of_ble_eq_true rfl), (Nat.le_of_ble_eq_true rfl)⟩ dX12_stateOf_25) hS rfl (fun locs hS => ?_)
      refine g_bifeq (b := (f_X12_isInTime mNum mW)) (tgt := 35) S dX12_stateOf_28 (by decide) (fun (c3 : (f_X12_isInTime mNum mW) = false) => ?_) (fun (c3 : (f_X12_isInTime mNum mW) = true) => ?_)
      · refine lv_iconst (v := 3) S.1 S.2.1 dX12_stateOf_35 (by decide) ?_
        have hf : (f_X12_stateOf mNum mW) = 3 := (if_neg c1).trans ((cd_f c2).trans (cd_f c3))
        exact g_iretR S hr hlk hS (by rw [hf] <;> rfl) dX12_stateOf_36
      · refine lv_iconst (v := 2) S.1 S.2.1 dX12_stateOf_31 (by decide) ?_
        refine lv_goto (tgt := 36) S.1 S.2.1 dX12_stateOf_32 (by decide) ?_
        have hf : (f_X12_stateOf mNum mW) = 2 := (if_neg c1).trans ((cd_f c2).trans (cd_t c3))
        exact g_iretR S hr hlk hS (by rw [hf] <;> rfl) dX12_stateOf_36
    · refine lv_iconst (v := 1) S.1 S.2.1 dX12_stateOf_20 (by decide) ?_
      refine lv_goto (tgt := 36) S.1 S.2.1 dX12_stateOf_21 (by decide) ?_
      have hf : (f_X12_stateOf mNum mW) = 1 := (if_neg c1).trans (cd_t c2)
      exact g_iretR S hr hlk hS (by rw [hf] <;> rfl) dX12_stateOf_36
  · refine lv_iconst (v := 0) S.1 S.2.1 dX12_stateOf_9 (by decide) ?_
    refine lv_goto (tgt := 36) S.1 S.2.1 dX12_stateOf_10 (by decide) ?_
    have hf : (f_X12_stateOf mNum mW) = 0 := if_pos c1
    exact g_iretR S hr hlk hS (by rw [hf] <;> rfl) dX12_stateOf_36
def L_X12_manyOf_5 (mW : Nat → Int32) (x : Int32) (b : Int32) : Nat → Int32 := iter_ (fun n sn => (if (f_X12_of mW (nI n) x) = b then (sn + 1) else (sn + 0))) 0
def f_X12_manyOf (mPpl : Int32) (mW : Nat → Int32) (x : Int32) (b : Int32) : Int32 := (L_X12_manyOf_5 mW x b mPpl.toNatClampNeg)
set_option maxHeartbeats 4000000 in
set_option maxRecDepth 100000 in
theorem c_X12_manyOf (l : Launch) (D : va_G) (A : Nat → Prop) (w : va_W) (α : Nat → Nat) (k : Nat) (mTaped : Int32) (mErr : Int32) (mPpl : Int32) (mBts : Int32) (mUs : Int32) (mRa : Int32) (mSt : Int32) (mKi : Int32) (mWd : Int64) (mVal : Int32) (mLet : Int32) (mFin : Int32) (mNp : Int32) (mNb : Int32) (mOuts : Int32) (mWant : Int32) (mFnd : Int32) (mTape : Nat → Int32) (mNum : Nat → Int32) (mNam : Nat → Int32) (mFst : Nat → Int32) (mBnm : Nat → Int32) (mW : Nat → Int32) (mUn : Nat → Int32) (mSl : Nat → Int32) (mKp : Nat → Int32) (mnNum : Nat → Int32) (mnNam : Nat → Int32) (mnBo : Nat → Int32) (mnBn : Nat → Int32) (x : Int32) (b : Int32) (hB0 : Blk w k (cM D α k mTaped mErr mPpl mBts mUs mRa mSt mKi mWd mVal mLet mFin mNp mNb mOuts mWant mFnd mTape mNum mNam mFst mBnm mW mUn mSl mKp mnNum mnNam mnBo mnBn)) (hy0 : vp_in mPpl 21) (hy1 : vp_in x 11) : Met l yX12_manyOf (ws_ yX12_manyOf cX12_manyOf 5 (some .int)) ({ frames := 1, cells := 0, slots := 0, locals := 22 }) (gPre D A [.ref (α (k)), .int x, .int b] w) (gR (some (.int (f_X12_manyOf mPpl mW x b)))) 0 0 A := by
  refine g_met [(0, .ref (α (k))), (1, .int x), (2, .int b)] (plainFor_of_name (by decide)) (Nat.le_of_ble_eq_true rfl) rfl (fun pg en s mi ar below me co ls S hK hP hD hE hS hr hlk hnm hl => ?_)
  have hpn := vin_lt (show vp_in mPpl 21 by assumption)
  refine lv_iconst (v := 0) S.1 S.2.1 dX12_manyOf_0 (by decide) ?_
  refine lv_istore_n (lv' := [(3, .int 0), (0, .ref (α (k))), (1, .int x), (2, .int b)]) S.1 S.2.1 dX12_manyOf_1 rfl hl (by decide) rfl (fun ls hl => ?_)
  refine lv_iconst (v := 0) S.1 S.2.1 dX12_manyOf_2 (by decide) ?_
  refine lv_istore (lv' := [(4, .int 0), (3, .int 0), (0, .ref (α (k))), (1, .int x), (2, .int b)]) S.1 S.2.1 dX12_manyOf_3 hl (by decide) rfl (fun ls hl => ?_)
  have lp5 : ∀ (j n : Nat), n + j = mPpl.toNatClampNeg → ∀ (locs : List Loc) (ls : Array Slot), va_S A s.heap s.heap locs → lv_has ls 5 [(4, .int (nI n)), (3, .int (L_X12_manyOf_5 mW x b n)), (0, .ref (α (k))), (1, .int x), (2, .int b)] → W pg l en ({ frames := 1, cells := 0, slots := 0, locals := 22 } : Room) s mi ar below me co s.heap locs 0 0 (MQ below (gR (some (.int (f_X12_manyOf mPpl mW x b)))) ar s 0 0 A) (F0 mi 5 ls []) := by
    intro j
    induction j with
    | zero =>
      intro n hn locs ls hS hl
      have hn : mPpl.toNatClampNeg = n := hn.symm
      subst hn
      refine lv_iload S.1 S.2.1 dX12_manyOf_5 (lv_at hl 0 rfl) ?_
      refine lv_aload_n S.1 S.2.1 dX12_manyOf_7 rfl (lv_at hl 2 rfl) ?_
      refine g_get (v := .int mPpl) S hK hP (hB0 0 _ rfl) rfl inX12 4 (by decide) qw1378 rfl dX12_manyOf_8 ?_
      refine lv_icmp_ge (tgt := 39) S.1 S.2.1 dX12_manyOf_11 (by decide) (fun (c1 : mPpl ≤ (nI mPpl.toNatClampNeg)) => ?_) (fun (c1 : ¬ mPpl ≤ (nI mPpl.toNatClampNeg)) => absurd c1 (lp_out (s := 0) ((Nat.max_eq_left (Nat.zero_le _)).symm)))
      refine lv_iload_n S.1 S.2.1 dX12_manyOf_39 rfl (lv_at hl 1 rfl) ?_
      have hf : (f_X12_manyOf mPpl mW x b) = (L_X12_manyOf_5 mW x b mPpl.toNatClampNeg) := rfl
      exact g_iretR S hr hlk hS (by rw [hf] <;> rfl) dX12_manyOf_40
    | succ j ih =>
      intro n hn locs ls hS hl
      refine lv_iload S.1 S.2.1 dX12_manyOf_5 (lv_at hl 0 rfl) ?_
      refine lv_aload_n S.1 S.2.1 dX12_manyOf_7 rfl (lv_at hl 2 rfl) ?_
      refine g_get (v := .int mPpl) S hK hP (hB0 0 _ rfl) rfl inX12 4 (by decide) qw1378 rfl dX12_manyOf_8 ?_
      refine lv_icmp_ge (tgt := 39) S.1 S.2.1 dX12_manyOf_11 (by decide) (fun (c2 : mPpl ≤ (nI n)) => absurd c2 (lp_in (s := 0) (rfl) hn)) (fun (c2 : ¬ mPpl ≤ (nI n)) => ?_)
      refine lv_iload_n S.1 S.2.1 dX12_manyOf_14 rfl (lv_at hl 1 rfl) ?_
      refine lv_aload_n S.1 S.2.1 dX12_manyOf_15 rfl (lv_at hl 2 rfl) ?_
      refine lv_iload S.1 S.2.1 dX12_manyOf_16 (lv_at hl 0 rfl) ?_
      refine lv_iload_n S.1 S.2.1 dX12_manyOf_18 rfl (lv_at hl 3 rfl) ?_
      refine g_aftR0 (st1 := [.int (f_X12_of mW (nI n) x), .int (L_X12_manyOf_5 mW x b n)]) (g_V (As := [.int (nI n), .int x]) (rest := [.int (L_X12_manyOf_5 mW x b n)]) S mi_X12_of qw1579 (c_X12_of l D A w α (k) mTaped mErr mPpl mBts mUs mRa mSt mKi mWd mVal mLet mFin mNp mNb mOuts mWant mFnd mTape mNum mNam mFst mBnm mW mUn mSl mKp mnNum mnNam mnBo mnBn (nI n) x hB0 (by first | assumption | exact vin_d (by decide) | exact vp_in_nI (by omega) (by decide) | decide | omega) (by first | assumption | exact vin_d (by decide) | exact vp_in_nI (by omega) (by decide) | decide | omega)) hK hP hD hE hS (hB0 0 _ rfl) rfl rfl rfl hl.1 (Nat.le_of_ble_eq_true rfl) rfl rfl ⟨(Nat.le_of_ble_eq_true rfl), (Nat.le_of_ble_eq_true rfl)⟩ ⟨(Nat.le_of_ble_eq_true rfl), (Nat.le_of_ble_eq_true rfl)⟩ dX12_manyOf_19) hS rfl (fun locs hS => ?_)
      refine lv_iload_n S.1 S.2.1 dX12_manyOf_22 rfl (lv_at hl 4 rfl) ?_
      refine lv_icmp_ne (tgt := 30) S.1 S.2.1 dX12_manyOf_23 (by decide) (fun (c3 : ¬ (f_X12_of mW (nI n) x) = b) => ?_) (fun (c3 : (f_X12_of mW (nI n) x) = b) => ?_)
      · refine lv_iconst (v := 0) S.1 S.2.1 dX12_manyOf_30 (by decide) ?_
        refine lv_iadd S.1 S.2.1 dX12_manyOf_31 ?_
        refine lv_istore_n (lv' := [(3, .int ((L_X12_manyOf_5 mW x b n) + 0)), (4, .int (nI n)), (0, .ref (α (k))), (1, .int x), (2, .int b)]) S.1 S.2.1 dX12_manyOf_32 rfl hl (by decide) rfl (fun ls hl => ?_)
        refine lv_iinc (v := (nI (n + 1))) (lv' := [(4, .int (nI (n + 1))), (3, .int ((L_X12_manyOf_5 mW x b n) + 0)), (0, .ref (α (k))), (1, .int x), (2, .int b)]) S.1 S.2.1 dX12_manyOf_33 hl (k := 1) rfl ((nI_succ n).symm) (by decide) rfl (fun ls hl => ?_)
        refine lv_goto (tgt := 5) S.1 S.2.1 dX12_manyOf_36 (by decide) ?_
        have hL : (L_X12_manyOf_5 mW x b (n + 1)) = ((L_X12_manyOf_5 mW x b n) + 0) := (iter_s _ _ _).trans (if_neg c3)
        refine ih (n + 1) (by omega) _ _ hS ?_
        rw [hL]; exact lv_sub hl [0, 1, 2, 3, 4] rfl
      · refine lv_iconst (v := 1) S.1 S.2.1 dX12_manyOf_26 (by decide) ?_
        refine lv_goto (tgt := 31) S.1 S.2.1 dX12_manyOf_27 (by decide) ?_
        refine lv_iadd S.1 S.2.1 dX12_manyOf_31 ?_
        refine lv_istore_n (lv' := [(3, .int ((L_X12_manyOf_5 mW x b n) + 1)), (4, .int (nI n)), (0, .ref (α (k))), (1, .int x), (2, .int b)]) S.1 S.2.1 dX12_manyOf_32 rfl hl (by decide) rfl (fun ls hl => ?_)
        refine lv_iinc (v := (nI (n + 1))) (lv' := [(4, .int (nI (n + 1))), (3, .int ((L_X12_manyOf_5 mW x b n) + 1)), (0, .ref (α (k))), (1, .int x), (2, .int b)]) S.1 S.2.1 dX12_manyOf_33 hl (k := 1) rfl ((nI_succ n).symm) (by decide) rfl (fun ls hl => ?_)
        refine lv_goto (tgt := 5) S.1 S.2.1 dX12_manyOf_36 (by decide) ?_
        have hL : (L_X12_manyOf_5 mW x b (n + 1)) = ((L_X12_manyOf_5 mW x b n) + 1) := (iter_s _ _ _).trans (if_pos c3)
        refine ih (n + 1) (by omega) _ _ hS ?_
        rw [hL]; exact lv_sub hl [0, 1, 2, 3, 4] rfl
  have hL0 : (L_X12_manyOf_5 mW x b 0) = 0 := iter_z _ _
  exact lp5 mPpl.toNatClampNeg 0 (Nat.zero_add _) _ _ hS (by rw [hL0]; exact lv_sub hl [0, 1, 2, 3, 4] rfl)
