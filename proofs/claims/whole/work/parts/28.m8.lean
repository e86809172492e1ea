def f_X12_takeBack (mPpl : Int32) (mUs : Int32) (mW : Nat → Int32) (mUn : Nat → Int32) (o : Int32) : Int32 × (Nat → Int32) × Int32 × (Nat → Int32) := (bif (f_X12_isPerson mPpl o) then (if (f_X12_of mW o 5) = 1 then (bif (f_X12_isAtSea mW o) then ((-3), mUn, mUs, mW) else (bif (f_X12_isAtSea mW (f_X12_of mW o 6)) then ((-3), mUn, mUs, mW) else ((f_X12_of mW o 6), (f_X12_keeps mUs mW mUn).1, (f_X12_keeps mUs mW mUn).2, (f_X12_atHand mW o)))) else (bif (f_X12_isAtSea mW o) then ((-3), mUn, mUs, mW) else ((-4), mUn, mUs, mW))) else ((-1), mUn, mUs, mW))
set_option maxHeartbeats 4000000 in
set_option maxRecDepth 100000 in
theorem c_X12_takeBack (l : Launch) (D : va_G) (A : Nat → Prop) (w : va_W) (α : Nat → Nat) (k : Nat) (mTaped : Int32) (mErr : Int32) (mPpl : Int32) (mBts : Int32) (mUs : Int32) (mRa : Int32) (mSt : Int32) (mKi : Int32) (mWd : Int64) (mVal : Int32) (mLet : Int32) (mFin : Int32) (mNp : Int32) (mNb : Int32) (mOuts : Int32) (mWant : Int32) (mFnd : Int32) (mTape : Nat → Int32) (mNum : Nat → Int32) (mNam : Nat → Int32) (mFst : Nat → Int32) (mBnm : Nat → Int32) (mW : Nat → Int32) (mUn : Nat → Int32) (mSl : Nat → Int32) (mKp : Nat → Int32) (mnNum : Nat → Int32) (mnNam : Nat → Int32) (mnBo : Nat → Int32) (mnBn : Nat → Int32) (o : Int32) (hB0 : Blk w k (cM D α k mTaped mErr mPpl mBts mUs mRa mSt mKi mWd mVal mLet mFin mNp mNb mOuts mWant mFnd mTape mNum mNam mFst mBnm mW mUn mSl mKp mnNum mnNam mnBo mnBn)) (hy0 : vp_in mUs 9) (hy1 : vp_in mPpl 21) (hy2 : ∀ q, vp_in q 20 → f_X12_of mW q 5 = 1 → vp_in (f_X12_of mW q 6) 20) : Met l yX12_takeBack (ws_ yX12_takeBack cX12_takeBack 4 (some .int)) ({ frames := 3, cells := 0, slots := 0, locals := 65 }) (gPre D A [.ref (α (k)), .int o] w) (gQ D A (some (.int (f_X12_takeBack mPpl mUs mW mUn o).1)) (fun w1 => Blk w1 k (cM D α k mTaped mErr mPpl mBts ((f_X12_takeBack mPpl mUs mW mUn o).2.2.1) mRa mSt mKi mWd mVal mLet mFin mNp mNb mOuts mWant mFnd mTape mNum mNam mFst mBnm ((f_X12_takeBack mPpl mUs mW mUn o).2.2.2) ((f_X12_takeBack mPpl mUs mW mUn o).2.1) mSl mKp mnNum mnNam mnBo mnBn) ∧ Same w w1 k 14)) 0 0 A := by
  refine g_met [(0, .ref (α (k))), (1, .int o)] (plainFor_of_name (by decide)) (Nat.le_of_ble_eq_true rfl) rfl (fun pg en s mi ar below me co ls S hK hP hD hE hS hr hlk hnm hl => ?_)
  have hF : Same w w k 14 := Same.rf
  refine lv_aload_n S.1 S.2.1 dX12_takeBack_0 rfl (lv_at hl 0 rfl) ?_
  refine lv_iload_n S.1 S.2.1 dX12_takeBack_1 rfl (lv_at hl 1 rfl) ?_
  refine g_aftR0 (st1 := [.int (b2i (f_X12_isPerson mPpl o))]) (g_V (As := [.int o]) (rest := []) S mi_X12_isPerson qw1611 (c_X12_isPerson l D A w α (k) mTaped mErr mPpl mBts mUs mRa mSt mKi mWd mVal mLet mFin mNp mNb mOuts mWant mFnd mTape mNum mNam mFst mBnm mW mUn mSl mKp mnNum mnNam mnBo mnBn o hB0) hK hP hD hE hS (hB0 0 _ rfl) rfl rfl rfl hl.1 (Nat.le_of_ble_eq_true rfl) rfl rfl ⟨(Nat.le_of_ble_eq_true rfl), (Nat.le_of_ble_eq_true rfl)⟩ ⟨(Nat.le_of_ble_eq_true rfl), (Nat.le_of_ble_eq_true rfl)⟩ dX12_takeBack_2) hS rfl (fun locs hS => ?_)
  refine g_bifne (b := (f_X12_isPerson mPpl o)) (tgt := 10) S dX12_takeBack_5 (by decide) (fun (c1 : (f_X12_isPerson mPpl o) = true) => ?_) (fun (c1 : (f_X12_isPerson mPpl o) = false) => ?_)
  · have hh1 := isPerson_in (by assumption) c1
    refine lv_aload_n S.1 S.2.1 dX12_takeBack_10 rfl (lv_at hl 0 rfl) ?_
    refine lv_iload_n S.1 S.2.1 dX12_takeBack_11 rfl (lv_at hl 1 rfl) ?_
    refine lv_iconst (v := 5) S.1 S.2.1 dX12_takeBack_12 (by decide) ?_
    refine g_aftR0 (st1 := [.int (f_X12_of mW o 5)]) (g_V (As := [.int o, .int 5]) (rest := []) S mi_X12_of qw1579 (c_X12_of l D A w α (k) mTaped mErr mPpl mBts mUs mRa mSt mKi mWd mVal mLet mFin mNp mNb mOuts mWant mFnd mTape mNum mNam mFst mBnm mW mUn mSl mKp mnNum mnNam mnBo mnBn o 5 hB0 (by first | assumption | exact vin_d (by decide) | exact vp_in_nI (by omega) (by decide) | decide | omega) (by first | assumption | exact vin_d (by decide) | exact vp_in_nI (by omega) (by decide) | decide | omega)) hK hP hD hE hS (hB0 0 _ rfl) rfl rfl rfl hl.1 (Nat.le_of_ble_eq_true rfl) rfl rfl ⟨(Nat.le_of_ble_eq_true rfl), (Nat.le_of_ble_eq_true rfl)⟩ ⟨(Nat.le_of_ble_eq_true rfl), (Nat.le_of_ble_eq_true rfl)⟩ dX12_takeBack_13) hS rfl (fun locs hS => ?_)
    refine lv_iconst (v := 1) S.1 S.2.1 dX12_takeBack_16 (by decide) ?_
    refine lv_icmp_ne (tgt := 24) S.1 S.2.1 dX12_takeBack_17 (by decide) (fun (c2 : ¬ (f_X12_of mW o 5) = 1) => ?_) (fun (c2 : (f_X12_of mW o 5) = 1) => ?_)
    · refine lv_iconst (v := 0) S.1 S.2.1 dX12_takeBack_24 (by decide) ?_
      refine lv_istore_n (lv' := [(2, .int 0), (0, .ref (α (k))), (1, .int o)]) S.1 S.2.1 dX12_takeBack_25 rfl hl (by decide) rfl (fun ls hl => ?_)
      refine lv_aload_n S.1 S.2.1 dX12_takeBack_26 rfl (lv_at hl 1 rfl) ?_
      refine lv_iload_n S.1 S.2.1 dX12_takeBack_27 rfl (lv_at hl 2 rfl) ?_
      refine lv_bipush (v := 6) S.1 S.2.1 dX12_takeBack_28 (by decide) ?_
      refine g_aftR0 (st1 := [.int (f_X12_of mW o 6)]) (g_V (As := [.int o, .int 6]) (rest := []) S mi_X12_of qw1579 (c_X12_of l D A w α (k) mTaped mErr mPpl mBts mUs mRa mSt mKi mWd mVal mLet mFin mNp mNb mOuts mWant mFnd mTape mNum mNam mFst mBnm mW mUn mSl mKp mnNum mnNam mnBo mnBn o 6 hB0 (by first | assumption | exact vin_d (by decide) | exact vp_in_nI (by omega) (by decide) | decide | omega) (by first | assumption | exact vin_d (by decide) | exact vp_in_nI (by omega) (by decide) | decide | omega)) hK hP hD hE hS (hB0 0 _ rfl) rfl rfl rfl hl.1 (Nat.le_of_ble_eq_true rfl) rfl rfl ⟨(Nat.le_of_ble_eq_true rfl), (Nat.le_of_ble_eq_true rfl)⟩ ⟨(Nat.le_of_ble_eq_true rfl), (Nat.le_of_ble_eq_true rfl)⟩ dX12_takeBack_30) hS rfl (fun locs hS => ?_)
      refine lv_istore_n (lv' := [(3, .int (f_X12_of mW o 6)), (2, .int 0), (0, .ref (α (k))), (1, .int o)]) S.1 S.2.1 dX12_takeBack_33 rfl hl (by decide) rfl (fun ls hl => ?_)
      refine lv_aload_n S.1 S.2.1 dX12_takeBack_34 rfl (lv_at hl 2 rfl) ?_
      refine lv_iload_n S.1 S.2.1 dX12_takeBack_35 rfl (lv_at hl 3 rfl) ?_
      refine g_aftR0 (st1 := [.int (b2i (f_X12_isAtSea mW o))]) (g_V (As := [.int o]) (rest := []) S mi_X12_isAtSea qw1583 (c_X12_isAtSea l D A w α (k) mTaped mErr mPpl mBts mUs mRa mSt mKi mWd mVal mLet mFin mNp mNb mOuts mWant mFnd mTape mNum mNam mFst mBnm mW mUn mSl mKp mnNum mnNam mnBo mnBn o hB0 (by first | assumption | exact hy2 _ (by assumption) (by assumption))) hK hP hD hE hS (hB0 0 _ rfl) rfl rfl rfl hl.1 (Nat.le_of_ble_eq_true rfl) rfl rfl ⟨(Nat.le_of_ble_eq_true rfl), (Nat.le_of_ble_eq_true rfl)⟩ ⟨(Nat.le_of_ble_eq_true rfl), (Nat.le_of_ble_eq_true rfl)⟩ dX12_takeBack_36) hS rfl (fun locs hS => ?_)
      refine g_bifne (b := (f_X12_isAtSea mW o)) (tgt := 54) S dX12_takeBack_39 (by decide) (fun (c3 : (f_X12_isAtSea mW o) = true) => ?_) (fun (c3 : (f_X12_isAtSea mW o) = false) => ?_)
      · refine lv_bipush (v := (-3)) S.1 S.2.1 dX12_takeBack_54 (by decide) ?_
        have hf : (f_X12_takeBack mPpl mUs mW mUn o) = ((-3), mUn, mUs, mW) := (cd_t c1).trans ((if_neg c2).trans (cd_t c3))
        exact g_iret S hr hlk hP hD hS (by rw [hf] <;> rfl) (⟨by rw [hf]; exact hB0, hF⟩) dX12_takeBack_56
      · refine lv_iload_n S.1 S.2.1 dX12_takeBack_42 rfl (lv_at hl 1 rfl) ?_
        refine lv_if_eq (tgt := 57) S.1 S.2.1 dX12_takeBack_43 (by decide) (fun _ => ?_) (fun c4 => absurd c4 (by decide))
        refine lv_iload_n S.1 S.2.1 dX12_takeBack_57 rfl (lv_at hl 1 rfl) ?_
        refine lv_if_ne (tgt := 64) S.1 S.2.1 dX12_takeBack_58 (by decide) (fun c5 => absurd c5 (by decide)) (fun _ => ?_)
        refine lv_bipush (v := (-4)) S.1 S.2.1 dX12_takeBack_61 (by decide) ?_
        have hf : (f_X12_takeBack mPpl mUs mW mUn o) = ((-4), mUn, mUs, mW) := (cd_t c1).trans ((if_neg c2).trans (cd_f c3))
        exact g_iret S hr hlk hP hD hS (by rw [hf] <;> rfl) (⟨by rw [hf]; exact hB0, hF⟩) dX12_takeBack_63
    · refine lv_iconst (v := 1) S.1 S.2.1 dX12_takeBack_20 (by decide) ?_
      refine lv_goto (tgt := 25) S.1 S.2.1 dX12_takeBack_21 (by decide) ?_
      refine lv_istore_n (lv' := [(2, .int 1), (0, .ref (α (k))), (1, .int o)]) S.1 S.2.1 dX12_takeBack_25 rfl hl (by decide) rfl (fun ls hl => ?_)
      refine lv_aload_n S.1 S.2.1 dX12_takeBack_26 rfl (lv_at hl 1 rfl) ?_
      refine lv_iload_n S.1 S.2.1 dX12_takeBack_27 rfl (lv_at hl 2 rfl) ?_
      refine lv_bipush (v := 6) S.1 S.2.1 dX12_takeBack_28 (by decide) ?_
      refine g_aftR0 (st1 := [.int (f_X12_of mW o 6)]) (g_V (As := [.int o, .int 6]) (rest := []) S mi_X12_of qw1579 (c_X12_of l D A w α (k) mTaped mErr mPpl mBts mUs mRa mSt mKi mWd mVal mLet mFin mNp mNb mOuts mWant mFnd mTape mNum mNam mFst mBnm mW mUn mSl mKp mnNum mnNam mnBo mnBn o 6 hB0 (by first | assumption | exact vin_d (by decide) | exact vp_in_nI (by omega) (by decide) | decide | omega) (by first | assumption | exact vin_d (by decide) | exact vp_in_nI (by omega) (by decide) | decide | omega)) hK hP hD hE hS (hB0 0 _ rfl) rfl rfl rfl hl.1 (Nat.le_of_ble_eq_true rfl) rfl rfl ⟨(Nat.le_of_ble_eq_true rfl), (Nat.le_of_ble_eq_true rfl)⟩ ⟨(Nat.le_of_ble_eq_true rfl), (Nat.le_of_ble_eq_true rfl)⟩ dX12_takeBack_30) hS rfl (fun locs hS => ?_)
      refine lv_istore_n (lv' := [(3, .int (f_X12_of mW o 6)), (2, .int 1), (0, .ref (α (k))), (1, .int o)]) S.1 S.2.1 dX12_takeBack_33 rfl hl (by decide) rfl (fun ls hl => ?_)
      refine lv_aload_n S.1 S.2.1 dX12_takeBack_34 rfl (lv_at hl 2 rfl) ?_
      refine lv_iload_n S.1 S.2.1 dX12_takeBack_35 rfl (lv_at hl 3 rfl) ?_
      refine g_aftR0 (st1 := [.int (b2i (f_X12_isAtSea mW o))]) (g_V (As := [.int o]) (rest := []) S mi_X12_isAtSea qw1583 (c_X12_isAtSea l D A w α (k) mTaped mErr mPpl mBts mUs mRa mSt mKi mWd mVal mLet mFin mNp mNb mOuts mWant mFnd mTape mNum mNam mFst mBnm mW mUn mSl mKp mnNum mnNam mnBo mnBn o hB0 (by first | assumption | exact hy2 _ (by assumption) (by assumption))) hK hP hD hE hS (hB0 0 _ rfl) rfl rfl rfl hl.1 (Nat.le_of_ble_eq_true rfl) rfl rfl ⟨(Nat.le_of_ble_eq_true rfl), (Nat.le_of_ble_eq_true rfl)⟩ ⟨(Nat.le_of_ble_eq_true rfl), (Nat.le_of_ble_eq_true rfl)⟩ dX12_takeBack_36) hS rfl (fun locs hS => ?_)
      refine g_bifne (b := (f_X12_isAtSea mW o)) (tgt := 54) S dX12_takeBack_39 (by decide) (fun (c6 : (f_X12_isAtSea mW o) = true) => ?_) (fun (c6 : (f_X12_isAtSea mW o) = false) => ?_)
      · refine lv_bipush (v := (-3)) S.1 S.2.1 dX12_takeBack_54 (by decide) ?_
        have hf : (f_X12_takeBack mPpl mUs mW mUn o) = ((-3), mUn, mUs, mW) := (cd_t c1).trans ((if_pos c2).trans (cd_t c6))
        exact g_iret S hr hlk hP hD hS (by rw [hf] <;> rfl) (⟨by rw [hf]; exact hB0, hF⟩) dX12_takeBack_56
      · refine lv_iload_n S.1 S.2.1 dX12_takeBack_42 rfl (lv_at hl 1 rfl) ?_
        refine lv_if_eq (tgt := 57) S.1 S.2.1 dX12_takeBack_43 (by decide) (fun c7 => absurd c7 (by decide)) (fun _ => ?_)
        refine lv_aload_n S.1 S.2.1 dX12_takeBack_46 rfl (lv_at hl 2 rfl) ?_
        refine lv_iload_n S.1 S.2.1 dX12_takeBack_47 rfl (lv_at hl 0 rfl) ?_
        refine g_aftR0 (st1 := [.int (b2i (f_X12_isAtSea mW (f_X12_of mW o 6)))]) (g_V (As := [.int (f_X12_of mW o 6)]) (rest := []) S mi_X12_isAtSea qw1583 (c_X12_isAtSea l D A w α (k) mTaped mErr mPpl mBts mUs mRa mSt mKi mWd mVal mLet mFin mNp mNb mOuts mWant mFnd mTape mNum mNam mFst mBnm mW mUn mSl mKp mnNum mnNam mnBo mnBn (f_X12_of mW o 6) hB0 (by first | assumption | exact hy2 _ (by assumption) (by assumption))) hK hP hD hE hS (hB0 0 _ rfl) rfl rfl rfl hl.1 (Nat.le_of_ble_eq_true rfl) rfl rfl ⟨(Nat.le_of_ble_eq_true rfl), (Nat.le_of_ble_eq_true rfl)⟩ ⟨(Nat.le_of_ble_eq_true rfl), (Nat.le_of_ble_eq_true rfl)⟩ dX12_takeBack_48) hS rfl (fun locs hS => ?_)
        refine g_bifeq (b := (f_X12_isAtSea mW (f_X12_of mW o 6))) (tgt := 57) S dX12_takeBack_51 (by decide) (fun (c8 : (f_X12_isAtSea mW (f_X12_of mW o 6)) = false) => ?_) (fun (c8 : (f_X12_isAtSea mW (f_X12_of mW o 6)) = true) => ?_)
        · refine lv_iload_n S.1 S.2.1 dX12_takeBack_57 rfl (lv_at hl 1 rfl) ?_
          refine lv_if_ne (tgt := 64) S.1 S.2.1 dX12_takeBack_58 (by decide) (fun _ => ?_) (fun c9 => absurd c9 (by decide))
          refine lv_aload_n S.1 S.2.1 dX12_takeBack_64 rfl (lv_at hl 2 rfl) ?_
          refine g_aft0 (st1 := []) (g_V (As := []) (rest := []) S mi_X12_keeps qw1575 (c_X12_keeps l D A w α (k) mTaped mErr mPpl mBts mUs mRa mSt mKi mWd mVal mLet mFin mNp mNb mOuts mWant mFnd mTape mNum mNam mFst mBnm mW mUn mSl mKp mnNum mnNam mnBo mnBn hB0 (by first | assumption | exact vin_d (by decide) | exact vp_in_nI (by omega) (by decide) | decide | omega)) hK hP hD hE hS (hB0 0 _ rfl) rfl rfl rfl hl.1 (Nat.le_of_ble_eq_true rfl) rfl rfl ⟨(Nat.le_of_ble_eq_true rfl), (Nat.le_of_ble_eq_true rfl)⟩ ⟨(Nat.le_of_ble_eq_true rfl), (Nat.le_of_ble_eq_true rfl)⟩ dX12_takeBack_65) hS rfl (fun w1 H locs hQ hP hD hS => ?_)
          have hF := hF.trans hQ.2
          have hB0 : Blk w1 k (cM D α k mTaped mErr mPpl mBts ((f_X12_keeps mUs mW mUn).2) mRa mSt mKi mWd mVal mLet mFin mNp mNb mOuts mWant mFnd mTape mNum mNam mFst mBnm mW ((f_X12_keeps mUs mW mUn).1) mSl mKp mnNum mnNam mnBo mnBn) := hQ.1
          refine lv_aload_n S.1 S.2.1 dX12_takeBack_68 rfl (lv_at hl 2 rfl) ?_
          refine lv_iload_n S.1 S.2.1 dX12_takeBack_69 rfl (lv_at hl 3 rfl) ?_
          refine g_aft0 (st1 := []) (g_V (As := [.int o]) (rest := []) S mi_X12_atHand qw1366 (c_X12_atHand l D A w1 α (k) mTaped mErr mPpl mBts ((f_X12_keeps mUs mW mUn).2) mRa mSt mKi mWd mVal mLet mFin mNp mNb mOuts mWant mFnd mTape mNum mNam mFst mBnm mW ((f_X12_keeps mUs mW mUn).1) mSl mKp mnNum mnNam mnBo mnBn o hB0 (by first | assumption | exact vin_d (by decide) | exact vp_in_nI (by omega) (by decide) | decide | omega)) hK hP hD hE hS (hB0 0 _ rfl) rfl rfl rfl hl.1 (Nat.le_of_ble_eq_true rfl) rfl rfl ⟨(Nat.le_of_ble_eq_true rfl), (Nat.le_of_ble_eq_true rfl)⟩ ⟨(Nat.le_of_ble_eq_true rfl), (Nat.le_of_ble_eq_true rfl)⟩ dX12_takeBack_70) hS rfl (fun w2 H locs hQ hP hD hS => ?_)
          have hF := hF.trans hQ.2
          have hB0 : Blk w2 k (cM D α k mTaped mErr mPpl mBts ((f_X12_keeps mUs mW mUn).2) mRa mSt mKi mWd mVal mLet mFin mNp mNb mOuts mWant mFnd mTape mNum mNam mFst mBnm (f_X12_atHand mW o) ((f_X12_keeps mUs mW mUn).1) mSl mKp mnNum mnNam mnBo mnBn) := hQ.1
          refine lv_iload_n S.1 S.2.1 dX12_takeBack_73 rfl (lv_at hl 0 rfl) ?_
          have hf : (f_X12_takeBack mPpl mUs mW mUn o) = ((f_X12_of mW o 6), (f_X12_keeps mUs mW mUn).1, (f_X12_keeps mUs mW mUn).2, (f_X12_atHand mW o)) := (cd_t c1).trans ((if_pos c2).trans ((cd_f c6).trans (cd_f c8)))
          exact g_iret S hr hlk hP hD hS (by rw [hf] <;> rfl) (⟨by rw [hf]; exact hB0, hF⟩) dX12_takeBack_74
        · refine lv_bipush (v := (-3)) S.1 S.2.1 dX12_takeBack_54 (by decide) ?_
          have hf : (f_X12_takeBack mPpl mUs mW mUn o) = ((-3), mUn, mUs, mW) := (cd_t c1).trans ((if_pos c2).trans ((cd_f c6).trans (cd_t c8)))
          exact g_iret S hr hlk hP hD hS (by rw [hf] <;> rfl) (⟨by rw [hf]; exact hB0, hF⟩) dX12_takeBack_56
  · refine lv_iconst (v := (-1)) S.1 S.2.1 dX12_takeBack_8 (by decide) ?_
    have hf : (f_X12_takeBack mPpl mUs mW mUn o) = ((-1), mUn, mUs, mW) := cd_f c1
    exact g_iret S hr hlk hP hD hS (by rw [hf] <;> rfl) (⟨by rw [hf]; exact hB0, hF⟩) dX12_takeBack_9
