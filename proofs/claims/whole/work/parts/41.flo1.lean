def f_X12_share (mPpl : Int32) (mW : Nat → Int32) (x : Int32) : UInt32 := (bif (f_X12_isBasket x) then (if (f_X12_turnout mPpl mW) = 0 then FP.fconst0 else (FP.fdiv (FP.i2f (f_X12_ones (f_X12_setIn mPpl mW x))) (FP.i2f (f_X12_turnout mPpl mW)))) else 3212836864)
set_option maxHeartbeats 4000000 in
set_option maxRecDepth 100000 in
theorem c_X12_share (l : Launch) (D : va_G) (A : Nat → Prop) (w : va_W) (α : Nat → Nat) (k : Nat) (mTaped : Int32) (mErr : Int32) (mPpl : Int32) (mBts : Int32) (mUs : Int32) (mRa : Int32) (mSt : Int32) (mKi : Int32) (mWd : Int64) (mVal : Int32) (mLet : Int32) (mFin : Int32) (mNp : Int32) (mNb : Int32) (mOuts : Int32) (mWant : Int32) (mFnd : Int32) (mTape : Nat → Int32) (mNum : Nat → Int32) (mNam : Nat → Int32) (mFst : Nat → Int32) (mBnm : Nat → Int32) (mW : Nat → Int32) (mUn : Nat → Int32) (mSl : Nat → Int32) (mKp : Nat → Int32) (mnNum : Nat → Int32) (mnNam : Nat → Int32) (mnBo : Nat → Int32) (mnBn : Nat → Int32) (x : Int32) (hB0 : Blk w k (cM D α k mTaped mErr mPpl mBts mUs mRa mSt mKi mWd mVal mLet mFin mNp mNb mOuts mWant mFnd mTape mNum mNam mFst mBnm mW mUn mSl mKp mnNum mnNam mnBo mnBn)) (hy0 : vp_in mPpl 21) : MetD lw_cs l yX12_share (ws_ yX12_share cX12_share 3 (some .float)) ({ frames := 4, cells := 0, slots := 0, locals := 87 }) (gPre D A [.ref (α (k)), .int x] w) (gF (f_X12_share mPpl mW x)) 0 0 A := by
  refine g_metD [(0, .ref (α (k))), (1, .int x)] (by decide) (Nat.le_of_ble_eq_true rfl) rfl (fun pg en s mi ar below me co ls Z hEnd S hK hP hD hE hS hr hlk hnm hl => ?_)
  have hpn := vin_lt (show vp_in mPpl 21 by assumption)
  refine lv_iload_n S.1 S.2.1 dX12_share_0 rfl (lv_at hl 1 rfl) ?_
  refine g_aftR0 (st1 := [.int (b2i (f_X12_isBasket x))]) (g_St (As := [.int x]) (rest := []) S ms_X12_isBasket qw1637 (c_X12_isBasket l D A w α x) hK hP hD hE hS rfl rfl hl.1 (Nat.le_of_ble_eq_true rfl) rfl rfl ⟨(Nat.le_of_ble_eq_true rfl), (Nat.le_of_ble_eq_true rfl)⟩ ⟨(Nat.le_of_ble_eq_true rfl), (Nat.le_of_ble_eq_true rfl)⟩ dX12_share_1) hS rfl (fun locs hS => ?_)
  refine g_bifne (b := (f_X12_isBasket x)) (tgt := 11) S dX12_share_4 (by decide) (fun (c1 : (f_X12_isBasket x) = true) => ?_) (fun (c1 : (f_X12_isBasket x) = false) => ?_)
  · refine lv_aload_n S.1 S.2.1 dX12_share_11 rfl (lv_at hl 0 rfl) ?_
    refine g_aftR0 (st1 := [.int (f_X12_turnout mPpl mW)]) (g_V (As := []) (rest := []) S mi_X12_turnout qw1716 (c_X12_turnout l D A w α (k) mTaped mErr mPpl mBts mUs mRa mSt mKi mWd mVal mLet mFin mNp mNb mOuts mWant mFnd mTape mNum mNam mFst mBnm mW mUn mSl mKp mnNum mnNam mnBo mnBn hB0 (by first | assumption | exact vin_d (by decide) | exact vp_in_nI (by omega) (by decide) | decide | omega)) hK hP hD hE hS (hB0 0 _ rfl) rfl rfl rfl hl.1 (Nat.le_of_ble_eq_true rfl) rfl rfl ⟨(Nat.le_of_ble_eq_true rfl), (Nat.le_of_ble_eq_true rfl)⟩ ⟨(Nat.le_of_ble_eq_true rfl), (Nat.le_of_ble_eq_true rfl)⟩ dX12_share_12) hS rfl (fun locs hS => ?_)
    refine lv_istore_n (lv' := [(2, .int (f_X12_turnout mPpl mW)), (0, .ref (α (k))), (1, .int x)]) S.1 S.2.1 dX12_share_15 rfl hl (by decide) rfl (fun ls hl => ?_)
    refine lv_iload_n S.1 S.2.1 dX12_share_16 rfl (lv_at hl 0 rfl) ?_
    refine lv_if_ne (tgt := 24) S.1 S.2.1 dX12_share_17 (by decide) (fun (c2 : ¬ (f_X12_turnout mPpl mW) = 0) => ?_) (fun (c2 : (f_X12_turnout mPpl mW) = 0) => ?_)
    · refine lv_aload_n S.1 S.2.1 dX12_share_24 rfl (lv_at hl 1 rfl) ?_
      refine lv_iload_n S.1 S.2.1 dX12_share_25 rfl (lv_at hl 2 rfl) ?_
      refine g_aftR0 (st1 := [.int (f_X12_setIn mPpl mW x)]) (g_V (As := [.int x]) (rest := []) S mi_X12_setIn qw1668 (c_X12_setIn l D A w α (k) mTaped mErr mPpl mBts mUs mRa mSt mKi mWd mVal mLet mFin mNp mNb mOuts mWant mFnd mTape mNum mNam mFst mBnm mW mUn mSl mKp mnNum mnNam mnBo mnBn x hB0 (by first | assumption | exact vin_d (by decide) | exact vp_in_nI (by omega) (by decide) | decide | omega)) hK hP hD hE hS (hB0 0 _ rfl) rfl rfl rfl hl.1 (Nat.le_of_ble_eq_true rfl) rfl rfl ⟨(Nat.le_of_ble_eq_true rfl), (Nat.le_of_ble_eq_true rfl)⟩ ⟨(Nat.le_of_ble_eq_true rfl), (Nat.le_of_ble_eq_true rfl)⟩ dX12_share_26) hS rfl (fun locs hS => ?_)
      refine g_aftR0 (st1 := [.int (f_X12_ones (f_X12_setIn mPpl mW x))]) (g_St (As := [.int (f_X12_setIn mPpl mW x)]) (rest := []) S ms_X12_ones qw1645 (c_X12_ones l D A w α (f_X12_setIn mPpl mW x)) hK hP hD hE hS rfl rfl hl.1 (Nat.le_of_ble_eq_true rfl) rfl rfl ⟨(Nat.le_of_ble_eq_true rfl), (Nat.le_of_ble_eq_true rfl)⟩ ⟨(Nat.le_of_ble_eq_true rfl), (Nat.le_of_ble_eq_true rfl)⟩ dX12_share_29) hS rfl (fun locs hS => ?_)
      refine lv_i2f S.1 S.2.1 dX12_share_32 ?_
      refine lv_iload_n S.1 S.2.1 dX12_share_33 rfl (lv_at hl 0 rfl) ?_
      refine lv_i2f S.1 S.2.1 dX12_share_34 ?_
      refine W.base (lv_fdiv_any (Drawn.sameBut.refl s.drawn lw_cs) lw_bits S.1 S.2.1 dX12_share_35 (fun r d1 hal hd1 => ?_))
      have hf : (f_X12_share mPpl mW x) = (FP.fdiv (FP.i2f (f_X12_ones (f_X12_setIn mPpl mW x))) (FP.i2f (f_X12_turnout mPpl mW))) := (cd_t c1).trans (if_neg c2)
      exact hEnd d1 _ _ _ _ _ hd1 (g_fretD S.1 S.2.1 hr hlk hS (by rw [hf]; exact hal) dX12_share_36)
    · refine lv_fconst0 S.1 S.2.1 dX12_share_20 ?_
      refine lv_goto (tgt := 36) S.1 S.2.1 dX12_share_21 (by decide) ?_
      have hf : (f_X12_share mPpl mW x) = FP.fconst0 := (cd_t c1).trans (if_pos c2)
      exact W.base (hEnd s.drawn _ _ _ _ _ (Drawn.sameBut.refl s.drawn lw_cs) (g_fretD S.1 S.2.1 hr hlk hS (by rw [hf]; exact alike32_refl _) dX12_share_36))
  · refine lv_ldcwf (v := 3212836864) S.1 S.2.1 S.2.2.2.1 (S.2.2.2.2 _ qw1885) dX12_share_7 ?_
    have hf : (f_X12_share mPpl mW x) = 3212836864 := cd_f c1
    exact W.base (hEnd s.drawn _ _ _ _ _ (Drawn.sameBut.refl s.drawn lw_cs) (g_fretD S.1 S.2.1 hr hlk hS (by rw [hf]; exact alike32_refl _) dX12_share_10))
