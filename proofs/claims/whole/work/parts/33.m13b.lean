noncomputable def f_X12_feeds (mTaped : Int32) (mTape : Nat → Int32) (v : Int32) : (Nat → Int32) × Int32 := ((upd (upd (upd (upd mTape mTaped.toNatClampNeg (vp_nar .byte ((v >>> ((24 : Int32) &&& 31)).toInt8.toInt32))) (mTaped + 1).toNatClampNeg (vp_nar .byte ((v >>> ((16 : Int32) &&& 31)).toInt8.toInt32))) ((mTaped + 1) + 1).toNatClampNeg (vp_nar .byte ((v >>> ((8 : Int32) &&& 31)).toInt8.toInt32))) (((mTaped + 1) + 1) + 1).toNatClampNeg (vp_nar .byte ((v >>> ((0 : Int32) &&& 31)).toInt8.toInt32))), ((((mTaped + 1) + 1) + 1) + 1))
set_option maxHeartbeats 4000000 in
set_option maxRecDepth 100000 in
theorem c_X12_feeds (l : Launch) (D : va_G) (A : Nat → Prop) (w : va_W) (α : Nat → Nat) (k : Nat) (mTaped : Int32) (mErr : Int32) (mPpl : Int32) (mBts : Int32) (mUs : Int32) (mRa : Int32) (mSt : Int32) (mKi : Int32) (mWd : Int64) (mVal : Int32) (mLet : Int32) (mFin : Int32) (mNp : Int32) (mNb : Int32) (mOuts : Int32) (mWant : Int32) (mFnd : Int32) (mTape : Nat → Int32) (mNum : Nat → Int32) (mNam : Nat → Int32) (mFst : Nat → Int32) (mBnm : Nat → Int32) (mW : Nat → Int32) (mUn : Nat → Int32) (mSl : Nat → Int32) (mKp : Nat → Int32) (mnNum : Nat → Int32) (mnNam : Nat → Int32) (mnBo : Nat → Int32) (mnBn : Nat → Int32) (v : Int32) (hB0 : Blk w k (cM D α k mTaped mErr mPpl mBts mUs mRa mSt mKi mWd mVal mLet mFin mNp mNb mOuts mWant mFnd mTape mNum mNam mFst mBnm mW mUn mSl mKp mnNum mnNam mnBo mnBn)) (hy0 : vp_in mTaped 797) : Met l yX12_feeds (ws_ yX12_feeds cX12_feeds 3 none) ({ frames := 0, cells := 0, slots := 0, locals := 0 }) (gPre D A [.ref (α (k)), .int v] w) (gQ D A none (fun w1 => Blk w1 k (cM D α k ((f_X12_feeds mTaped mTape v).2) mErr mPpl mBts mUs mRa mSt mKi mWd mVal mLet mFin mNp mNb mOuts mWant mFnd ((f_X12_feeds mTaped mTape v).1) mNum mNam mFst mBnm mW mUn mSl mKp mnNum mnNam mnBo mnBn) ∧ Same w w1 k 14 ∧ ((f_X12_feeds mTaped mTape v).2 = mTaped + 4))) 0 0 A := by
  refine g_met [(0, .ref (α (k))), (1, .int v)] (plainFor_of_name (by decide)) (Nat.le_of_ble_eq_true rfl) rfl (fun pg en s mi ar below me co ls S hK hP hD hE hS hr hlk hnm hl => ?_)
  have hF : Same w w k 14 := Same.rf
  refine lv_bipush (v := 24) S.1 S.2.1 dX12_feeds_0 (by decide) ?_
  refine lv_istore_n (lv' := [(2, .int 24), (0, .ref (α (k))), (1, .int v)]) S.1 S.2.1 dX12_feeds_2 rfl hl (by decide) rfl (fun ls hl => ?_)
  refine lv_iload_n S.1 S.2.1 dX12_feeds_3 rfl (lv_at hl 0 rfl) ?_
  refine lv_if_lt (tgt := 36) S.1 S.2.1 dX12_feeds_4 (by decide) (fun c1 => absurd c1 (by decide)) (fun _ => ?_)
  refine lv_aload_n S.1 S.2.1 dX12_feeds_7 rfl (lv_at hl 1 rfl) ?_
  refine g_get (v := .ref (α (k + 1))) S hK hP (hB0 0 _ rfl) rfl inX12 0 (by decide) qw1374 rfl dX12_feeds_8 ?_
  refine lv_aload_n S.1 S.2.1 dX12_feeds_11 rfl (lv_at hl 1 rfl) ?_
  refine g_get (v := .int mTaped) S hK hP (hB0 0 _ rfl) rfl inX12 1 (by decide) qw1375 rfl dX12_feeds_12 ?_
  refine lv_iload_n S.1 S.2.1 dX12_feeds_15 rfl (lv_at hl 2 rfl) ?_
  refine lv_iload_n S.1 S.2.1 dX12_feeds_16 rfl (lv_at hl 0 rfl) ?_
  refine lv_ishr S.1 S.2.1 dX12_feeds_17 ?_
  refine lv_i2b (v := (v >>> ((24 : Int32) &&& 31)).toInt8.toInt32) S.1 S.2.1 dX12_feeds_18 rfl ?_
  refine g_bast S hK hP hD hS (hB0 1 _ rfl) (vin_w hy0 (by decide)) dX12_feeds_19 (fun w1 H locs hw hP hD hS => ?_)
  have hF := Same.set hF 1 hw (by decide)
  have hB0 : Blk w1 k (cM D α k mTaped mErr mPpl mBts mUs mRa mSt mKi mWd mVal mLet mFin mNp mNb mOuts mWant mFnd (upd mTape mTaped.toNatClampNeg (vp_nar .byte ((v >>> ((24 : Int32) &&& 31)).toInt8.toInt32))) mNum mNam mFst mBnm mW mUn mSl mKp mnNum mnNam mnBo mnBn) := hB0.set 1 hw (Nat.le_of_ble_eq_true rfl) rfl
  refine lv_aload_n S.1 S.2.1 dX12_feeds_20 rfl (lv_at hl 1 rfl) ?_
  refine lv_dup S.1 S.2.1 dX12_feeds_21 rfl ?_
  refine g_get (v := .int mTaped) S hK hP (hB0 0 _ rfl) rfl inX12 1 (by decide) qw1375 rfl dX12_feeds_22 ?_
  refine lv_iconst (v := 1) S.1 S.2.1 dX12_feeds_25 (by decide) ?_
  refine lv_iadd S.1 S.2.1 dX12_feeds_26 ?_
  refine g_put S hK hP hD hS (hB0 0 _ rfl) rfl inX12 tyX12_ok nmX12 1 (by decide) qw1375 rfl rfl rfl (Nat.le_of_ble_eq_true rfl) dX12_feeds_27 (fun w2 H locs hw hP hD hS => ?_)
  have hF := Same.set hF 0 hw (by decide)
  have hB0 : Blk w2 k (cM D α k (mTaped + 1) mErr mPpl mBts mUs mRa mSt mKi mWd mVal mLet mFin mNp mNb mOuts mWant mFnd (upd mTape mTaped.toNatClampNeg (vp_nar .byte ((v >>> ((24 : Int32) &&& 31)).toInt8.toInt32))) mNum mNam mFst mBnm mW mUn mSl mKp mnNum mnNam mnBo mnBn) := hB0.set 0 hw (Nat.le_of_ble_eq_true rfl) rfl
  refine lv_iinc (v := 16) (lv' := [(2, .int 16), (0, .ref (α (k))), (1, .int v)]) S.1 S.2.1 dX12_feeds_30 hl (k := 0) rfl (by decide) (by decide) rfl (fun ls hl => ?_)
  refine lv_goto (tgt := 3) S.1 S.2.1 dX12_feeds_33 (by decide) ?_
  refine lv_iload_n S.1 S.2.1 dX12_feeds_3 rfl (lv_at hl 0 rfl) ?_
  refine lv_if_lt (tgt := 36) S.1 S.2.1 dX12_feeds_4 (by decide) (fun c2 => absurd c2 (by decide)) (fun _ => ?_)
  refine lv_aload_n S.1 S.2.1 dX12_feeds_7 rfl (lv_at hl 1 rfl) ?_
  refine g_get (v := .ref (α (k + 1))) S hK hP (hB0 0 _ rfl) rfl inX12 0 (by decide) qw1374 rfl dX12_feeds_8 ?_
  refine lv_aload_n S.1 S.2.1 dX12_feeds_11 rfl (lv_at hl 1 rfl) ?_
  refine g_get (v := .int (mTaped + 1)) S hK hP (hB0 0 _ rfl) rfl inX12 1 (by decide) qw1375 rfl dX12_feeds_12 ?_
  refine lv_iload_n S.1 S.2.1 dX12_feeds_15 rfl (lv_at hl 2 rfl) ?_
  refine lv_iload_n S.1 S.2.1 dX12_feeds_16 rfl (lv_at hl 0 rfl) ?_
  refine lv_ishr S.1 S.2.1 dX12_feeds_17 ?_
  refine lv_i2b (v := (v >>> ((16 : Int32) &&& 31)).toInt8.toInt32) S.1 S.2.1 dX12_feeds_18 rfl ?_
  refine g_bast S hK hP hD hS (hB0 1 _ rfl) (vin_w (rb_s hy0) (by decide)) dX12_feeds_19 (fun w3 H locs hw hP hD hS => ?_)
  have hF := Same.set hF 1 hw (by decide)
  have hB0 : Blk w3 k (cM D α k (mTaped + 1) mErr mPpl mBts mUs mRa mSt mKi mWd mVal mLet mFin mNp mNb mOuts mWant mFnd (upd (upd mTape mTaped.toNatClampNeg (vp_nar .byte ((v >>> ((24 : Int32) &&& 31)).toInt8.toInt32))) (mTaped + 1).toNatClampNeg (vp_nar .byte ((v >>> ((16 : Int32) &&& 31)).toInt8.toInt32))) mNum mNam mFst mBnm mW mUn mSl mKp mnNum mnNam mnBo mnBn) := hB0.set 1 hw (Nat.le_of_ble_eq_true rfl) rfl
  refine lv_aload_n S.1 S.2.1 dX12_feeds_20 rfl (lv_at hl 1 rfl) ?_
  refine lv_dup S.1 S.2.1 dX12_feeds_21 rfl ?_
  refine g_get (v := .int (mTaped + 1)) S hK hP (hB0 0 _ rfl) rfl inX12 1 (by decide) qw1375 rfl dX12_feeds_22 ?_
  refine lv_iconst (v := 1) S.1 S.2.1 dX12_feeds_25 (by decide) ?_
  refine lv_iadd S.1 S.2.1 dX12_feeds_26 ?_
  refine g_put S hK hP hD hS (hB0 0 _ rfl) rfl inX12 tyX12_ok nmX12 1 (by decide) qw1375 rfl rfl rfl (Nat.le_of_ble_eq_true rfl) dX12_feeds_27 (fun w4 H locs hw hP hD hS => ?_)
  have hF := Same.set hF 0 hw (by decide)
  have hB0 : Blk w4 k (cM D α k ((mTaped + 1) + 1) mErr mPpl mBts mUs mRa mSt mKi mWd mVal mLet mFin mNp mNb mOuts mWant mFnd (upd (upd mTape mTaped.toNatClampNeg (vp_nar .byte ((v >>> ((24 : Int32) &&& 31)).toInt8.toInt32))) (mTaped + 1).toNatClampNeg (vp_nar .byte ((v >>> ((16 : Int32) &&& 31)).toInt8.toInt32))) mNum mNam mFst mBnm mW mUn mSl mKp mnNum mnNam mnBo mnBn) := hB0.set 0 hw (Nat.le_of_ble_eq_true rfl) rfl
  refine lv_iinc (v := 8) (lv' := [(2, .int 8), (0, .ref (α (k))), (1, .int v)]) S.1 S.2.1 dX12_feeds_30 hl (k := 0) rfl (by decide) (by decide) rfl (fun ls hl => ?_)
  refine lv_goto (tgt := 3) S.1 S.2.1 dX12_feeds_33 (by decide) ?_
  refine lv_iload_n S.1 S.2.1 dX12_feeds_3 rfl (lv_at hl 0 rfl) ?_
  refine lv_if_lt (tgt := 36) S.1 S.2.1 dX12_feeds_4 (by decide) (fun c3 => absurd c3 (by decide)) (fun _ => ?_)
  refine lv_aload_n S.1 S.2.1 dX12_feeds_7 rfl (lv_at hl 1 rfl) ?_
  refine g_get (v := .ref (α (k + 1))) S hK hP (hB0 0 _ rfl) rfl inX12 0 (by decide) qw1374 rfl dX12_feeds_8 ?_
  refine lv_aload_n S.1 S.2.1 dX12_feeds_11 rfl (lv_at hl 1 rfl) ?_
  refine g_get (v := .int ((mTaped + 1) + 1)) S hK hP (hB0 0 _ rfl) rfl inX12 1 (by decide) qw1375 rfl dX12_feeds_12 ?_
  refine lv_iload_n S.1 S.2.1 dX12_feeds_15 rfl (lv_at hl 2 rfl) ?_
  refine lv_iload_n S.1 S.2.1 dX12_feeds_16 rfl (lv_at hl 0 rfl) ?_
  refine lv_ishr S.1 S.2.1 dX12_feeds_17 ?_
  refine lv_i2b (v := (v >>> ((8 : Int32) &&& 31)).toInt8.toInt32) S.1 S.2.1 dX12_feeds_18 rfl ?_
  refine g_bast S hK hP hD hS (hB0 1 _ rfl) (vin_w (rb_s (rb_s hy0)) (by decide)) dX12_feeds_19 (fun w5 H locs hw hP hD hS => ?_)
  have hF := Same.set hF 1 hw (by decide)
  have hB0 : Blk w5 k (cM D α k ((mTaped + 1) + 1) mErr mPpl mBts mUs mRa mSt mKi mWd mVal mLet mFin mNp mNb mOuts mWant mFnd (upd (upd (upd mTape mTaped.toNatClampNeg (vp_nar .byte ((v >>> ((24 : Int32) &&& 31)).toInt8.toInt32))) (mTaped + 1).toNatClampNeg (vp_nar .byte ((v >>> ((16 : Int32) &&& 31)).toInt8.toInt32))) ((mTaped + 1) + 1).toNatClampNeg (vp_nar .byte ((v >>> ((8 : Int32) &&& 31)).toInt8.toInt32))) mNum mNam mFst mBnm mW mUn mSl mKp mnNum mnNam mnBo mnBn) := hB0.set 1 hw (Nat.le_of_ble_eq_true rfl) rfl
  refine lv_aload_n S.1 S.2.1 dX12_feeds_20 rfl (lv_at hl 1 rfl) ?_
  refine lv_dup S.1 S.2.1 dX12_feeds_21 rfl ?_
  refine g_get (v := .int ((mTaped + 1) + 1)) S hK hP (hB0 0 _ rfl) rfl inX12 1 (by decide) qw1375 rfl dX12_feeds_22 ?_
  refine lv_iconst (v := 1) S.1 S.2.1 dX12_feeds_25 (by decide) ?_
  refine lv_iadd S.1 S.2.1 dX12_feeds_26 ?_
  refine g_put S hK hP hD hS (hB0 0 _ rfl) rfl inX12 tyX12_ok nmX12 1 (by decide) qw1375 rfl rfl rfl (Nat.le_of_ble_eq_true rfl) dX12_feeds_27 (fun w6 H locs hw hP hD hS => ?_)
  have hF := Same.set hF 0 hw (by decide)
  have hB0 : Blk w6 k (cM D α k (((mTaped + 1) + 1) + 1) mErr mPpl mBts mUs mRa mSt mKi mWd mVal mLet mFin mNp mNb mOuts mWant mFnd (upd (upd (upd mTape mTaped.toNatClampNeg (vp_nar .byte ((v >>> ((24 : Int32) &&& 31)).toInt8.toInt32))) (mTaped + 1).toNatClampNeg (vp_nar .byte ((v >>> ((16 : Int32) &&& 31)).toInt8.toInt32))) ((mTaped + 1) + 1).toNatClampNeg (vp_nar .byte ((v >>> ((8 : Int32) &&& 31)).toInt8.toInt32))) mNum mNam mFst mBnm mW mUn mSl mKp mnNum mnNam mnBo mnBn) := hB0.set 0 hw (Nat.le_of_ble_eq_true rfl) rfl
  refine lv_iinc (v := 0) (lv' := [(2, .int 0), (0, .ref (α (k))), (1, .int v)]) S.1 S.2.1 dX12_feeds_30 hl (k := 0) rfl (by decide) (by decide) rfl (fun ls hl => ?_)
  refine lv_goto (tgt := 3) S.1 S.2.1 dX12_feeds_33 (by decide) ?_
  refine lv_iload_n S.1 S.2.1 dX12_feeds_3 rfl (lv_at hl 0 rfl) ?_
  refine lv_if_lt (tgt := 36) S.1 S.2.1 dX12_feeds_4 (by decide) (fun c4 => absurd c4 (by decide)) (fun _ => ?_)
  refine lv_aload_n S.1 S.2.1 dX12_feeds_7 rfl (lv_at hl 1 rfl) ?_
  refine g_get (v := .ref (α (k + 1))) S hK hP (hB0 0 _ rfl) rfl inX12 0 (by decide) qw1374 rfl dX12_feeds_8 ?_
  refine lv_aload_n S.1 S.2.1 dX12_feeds_11 rfl (lv_at hl 1 rfl) ?_
  refine g_get (v := .int (((mTaped + 1) + 1) + 1)) S hK hP (hB0 0 _ rfl) rfl inX12 1 (by decide) qw1375 rfl dX12_feeds_12 ?_
  refine lv_iload_n S.1 S.2.1 dX12_feeds_15 rfl (lv_at hl 2 rfl) ?_
  refine lv_iload_n S.1 S.2.1 dX12_feeds_16 rfl (lv_at hl 0 rfl) ?_
  refine lv_ishr S.1 S.2.1 dX12_feeds_17 ?_
  refine lv_i2b (v := (v >>> ((0 : Int32) &&& 31)).toInt8.toInt32) S.1 S.2.1 dX12_feeds_18 rfl ?_
  refine g_bast S hK hP hD hS (hB0 1 _ rfl) (rb_s (rb_s (rb_s hy0))) dX12_feeds_19 (fun w7 H locs hw hP hD hS => ?_)
  have hF := Same.set hF 1 hw (by decide)
  have hB0 : Blk w7 k (cM D α k (((mTaped + 1) + 1) + 1) mErr mPpl mBts mUs mRa mSt mKi mWd mVal mLet mFin mNp mNb mOuts mWant mFnd (upd (upd (upd (upd mTape mTaped.toNatClampNeg (vp_nar .byte ((v >>> ((24 : Int32) &&& 31)).toInt8.toInt32))) (mTaped + 1).toNatClampNeg (vp_nar .byte ((v >>> ((16 : Int32) &&& 31)).toInt8.toInt32))) ((mTaped + 1) + 1).toNatClampNeg (vp_nar .byte ((v >>> ((8 : Int32) &&& 31)).toInt8.toInt32))) (((mTaped + 1) + 1) + 1).toNatClampNeg (vp_nar .byte ((v >>> ((0 : Int32) &&& 31)).toInt8.toInt32))) mNum mNam mFst mBnm mW mUn mSl mKp mnNum mnNam mnBo mnBn) := hB0.set 1 hw (Nat.le_of_ble_eq_true rfl) rfl
  refine lv_aload_n S.1 S.2.1 dX12_feeds_20 rfl (lv_at hl 1 rfl) ?_
  refine lv_dup S.1 S.2.1 dX12_feeds_21 rfl ?_
  refine g_get (v := .int (((mTaped + 1) + 1) + 1)) S hK hP (hB0 0 _ rfl) rfl inX12 1 (by decide) qw1375 rfl dX12_feeds_22 ?_
  refine lv_iconst (v := 1) S.1 S.2.1 dX12_feeds_25 (by decide) ?_
  refine lv_iadd S.1 S.2.1 dX12_feeds_26 ?_
  refine g_put S hK hP hD hS (hB0 0 _ rfl) rfl inX12 tyX12_ok nmX12 1 (by decide) qw1375 rfl rfl rfl (Nat.le_of_ble_eq_true rfl) dX12_feeds_27 (fun w8 H locs hw hP hD hS => ?_)
  have hF := Same.set hF 0 hw (by decide)
  have hB0 : Blk w8 k (cM D α k ((((mTaped + 1) + 1) + 1) + 1) mErr mPpl mBts mUs mRa mSt mKi mWd mVal mLet mFin mNp mNb mOuts mWant mFnd (upd (upd (upd (upd mTape mTaped.toNatClampNeg (vp_nar .byte ((v >>> ((24 : Int32) &&& 31)).toInt8.toInt32))) (mTaped + 1).toNatClampNeg (vp_nar .byte ((v >>> ((16 : Int32) &&& 31)).toInt8.toInt32))) ((mTaped + 1) + 1).toNatClampNeg (vp_nar .byte ((v >>> ((8 : Int32) &&& 31)).toInt8.toInt32))) (((mTaped + 1) + 1) + 1).toNatClampNeg (vp_nar .byte ((v >>> ((0 : Int32) &&& 31)).toInt8.toInt32))) mNum mNam mFst mBnm mW mUn mSl mKp mnNum mnNam mnBo mnBn) := hB0.set 0 hw (Nat.le_of_ble_eq_true rfl) rfl
  refine lv_iinc (v := (-8)) (lv' := [(2, .int (-8)), (0, .ref (α (k))), (1, .int v)]) S.1 S.2.1 dX12_feeds_30 hl (k := 0) rfl (by decide) (by decide) rfl (fun ls hl => ?_)
  refine lv_goto (tgt := 3) S.1 S.2.1 dX12_feeds_33 (by decide) ?_
  refine lv_iload_n S.1 S.2.1 dX12_feeds_3 rfl (lv_at hl 0 rfl) ?_
  refine lv_if_lt (tgt := 36) S.1 S.2.1 dX12_feeds_4 (by decide) (fun _ => ?_) (fun c5 => absurd c5 (by decide))
  have hf : (f_X12_feeds mTaped mTape v) = ((upd (upd (upd (upd mTape mTaped.toNatClampNeg (vp_nar .byte ((v >>> ((24 : Int32) &&& 31)).toInt8.toInt32))) (mTaped + 1).toNatClampNeg (vp_nar .byte ((v >>> ((16 : Int32) &&& 31)).toInt8.toInt32))) ((mTaped + 1) + 1).toNatClampNeg (vp_nar .byte ((v >>> ((8 : Int32) &&& 31)).toInt8.toInt32))) (((mTaped + 1) + 1) + 1).toNatClampNeg (vp_nar .byte ((v >>> ((0 : Int32) &&& 31)).toInt8.toInt32))), ((((mTaped + 1) + 1) + 1) + 1)) := rfl
  exact g_vret S hr hlk hP hD hS (rfl) (⟨by rw [hf]; dsimp only; exact hB0, hF, by rw [hf]; (try dsimp only); exact by rw [Int32.add_assoc, Int32.add_assoc, Int32.add_assoc]; rfl⟩) dX12_feeds_36
