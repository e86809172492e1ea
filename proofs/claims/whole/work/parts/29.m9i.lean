def f_X12_contest (mPpl : Int32) (mBts : Int32) (mUs : Int32) (mNum : Nat → Int32) (mW : Nat → Int32) (mUn : Nat → Int32) (p : Int32) (o : Int32) : Int32 × (Nat → Int32) × Int32 × (Nat → Int32) := (bif (f_X12_isPerson mPpl p) then (bif (f_X12_isPerson mPpl o) then (bif (f_X12_isAtSea mW p) then ((-3), mUn, mUs, mW) else (if (f_X12_of mW o 5) = 2 then (if (f_X12_of mW p 2) = 3 then ((-4), mUn, mUs, mW) else (bif (f_X12_isInTime mNum mW) then (if (f_X12_of mW o 10) ≤ 0 then ((f_X12_of mW o 10), (f_X12_keeps mUs mW mUn).1, (f_X12_keeps mUs mW mUn).2, (f_X12_tells (f_X12_sets mW p 2 ((f_X12_of mW p 2) + 1)) 5 p (f_X12_of (f_X12_sets mW p 2 ((f_X12_of mW p 2) + 1)) p 2))) else ((f_X12_of mW o 10), (f_X12_keeps mUs mW mUn).1, (f_X12_keeps mUs mW mUn).2, (f_X12_strikes mPpl mBts mNum mW ((1 : Int32) <<< (o &&& 31))))) else ((-5), mUn, mUs, mW))) else ((-4), mUn, mUs, mW))) else ((-1), mUn, mUs, mW)) else ((-1), mUn, mUs, mW))
theorem pos_pred {x : Int32} (h : ¬ x ≤ 0) : ¬ x - 1 < 0 := by
  have h0 : ¬ x < 0 := fun q => h (Int32.le_of_lt q)
  obtain ⟨n, hn, rfl⟩ := nI_of h0
  cases n with
  | zero => exact absurd (by decide) h
  | succ n => rw [nI_pred]; exact nI_pos (by omega)
theorem closed_v {mW : Nat → Int32} (c : f_X12_isClosed mW = true) : ¬ mW 1 - 1 < 0 := by
  unfold f_X12_isClosed at c
  by_cases h : mW 1 ≤ 0
  · rw [if_pos h] at c; cases c
  · exact pos_pred h
theorem inTime_v {mNum mW : Nat → Int32} (c : f_X12_isInTime mNum mW = true) : f_X12_isOpen mW = false → ¬ mW 1 - 1 < 0 := by
  intro h
  unfold f_X12_isInTime at c
  rw [h] at c
  cases h2 : f_X12_isClosed mW
  · rw [h2] at c; cases c
  · exact closed_v h2
set_option maxHeartbeats 4000000 in
set_option maxRecDepth 100000 in
theorem c_X12_contest (l : Launch) (D : va_G) (A : Nat → Prop) (w : va_W) (α : Nat → Nat) (k : Nat) (mTaped : Int32) (mErr : Int32) (mPpl : Int32) (mBts : Int32) (mUs : Int32) (mRa : Int32) (mSt : Int32) (mKi : Int32) (mWd : Int64) (mVal : Int32) (mLet : Int32) (mFin : Int32) (mNp : Int32) (mNb : Int32) (mOuts : Int32) (mWant : Int32) (mFnd : Int32) (mTape : Nat → Int32) (mNum : Nat → Int32) (mNam : Nat → Int32) (mFst : Nat → Int32) (mBnm : Nat → Int32) (mW : Nat → Int32) (mUn : Nat → Int32) (mSl : Nat → Int32) (mKp : Nat → Int32) (mnNum : Nat → Int32) (mnNam : Nat → Int32) (mnBo : Nat → Int32) (mnBn : Nat → Int32) (p : Int32) (o : Int32) (hB0 : Blk w k (cM D α k mTaped mErr mPpl mBts mUs mRa mSt mKi mWd mVal mLet mFin mNp mNb mOuts mWant mFnd mTape mNum mNam mFst mBnm mW mUn mSl mKp mnNum mnNam mnBo mnBn)) (hy0 : vp_in mUs 9) (hy1 : vp_in mPpl 21) (hy2 : 0 ≤ mW 0) (hy3 : 0 < mNum 0) (hy4 : vp_in mBts 7) (hy5 : vp_in (mW 8) 31) : Met l yX12_contest (ws_ yX12_contest cX12_contest 4 (some .int)) ({ frames := 8, cells := 0, slots := 0, locals := 172 }) (gPre D A [.ref (α (k)), .int p, .int o] w) (gQ D A (some (.int (f_X12_contest mPpl mBts mUs mNum mW mUn p o).1)) (fun w1 => Blk w1 k (cM D α k mTaped mErr mPpl mBts ((f_X12_contest mPpl mBts mUs mNum mW mUn p o).2.2.1) mRa mSt mKi mWd mVal mLet mFin mNp mNb mOuts mWant mFnd mTape mNum mNam mFst mBnm ((f_X12_contest mPpl mBts mUs mNum mW mUn p o).2.2.2) ((f_X12_contest mPpl mBts mUs mNum mW mUn p o).2.1) mSl mKp mnNum mnNam mnBo mnBn) ∧ Same w w1 k 14)) 0 0 A := by
  refine g_met [(0, .ref (α (k))), (1, .int p), (2, .int o)] (plainFor_of_name (by decide)) (Nat.le_of_ble_eq_true rfl) rfl (fun pg en s mi ar below me co ls S hK hP hD hE hS hr hlk hnm hl => ?_)
  have hF : Same w w k 14 := Same.rf
  refine lv_aload_n S.1 S.2.1 dX12_contest_0 rfl (lv_at hl 0 rfl) ?_
  refine lv_iload_n S.1 S.2.1 dX12_contest_1 rfl (lv_at hl 1 rfl) ?_
  refine g_aftR0 (st1 := [.int (b2i (f_X12_isPerson mPpl p))]) (g_V (As := [.int p]) (rest := []) S mi_X12_isPerson qw1611 (c_X12_isPerson l D A w α (k) mTaped mErr mPpl mBts mUs mRa mSt mKi mWd mVal mLet mFin mNp mNb mOuts mWant mFnd mTape mNum mNam mFst mBnm mW mUn mSl mKp mnNum mnNam mnBo mnBn p hB0) hK hP hD hE hS (hB0 0 _ rfl) rfl rfl rfl hl.1 (Nat.le_of_ble_eq_true rfl) rfl rfl ⟨(Nat.le_of_ble_eq_true rfl), (Nat.le_of_ble_eq_true rfl)⟩ ⟨(Nat.le_of_ble_eq_true rfl), (Nat.le_of_ble_eq_true rfl)⟩ dX12_contest_2) hS rfl (fun locs hS => ?_)
  refine g_bifeq (b := (f_X12_isPerson mPpl p)) (tgt := 16) S dX12_contest_5 (by decide) (fun (c1 : (f_X12_isPerson mPpl p) = false) => ?_) (fun (c1 : (f_X12_isPerson mPpl p) = true) => ?_)
  · refine lv_iconst (v := (-1)) S.1 S.2.1 dX12_contest_16 (by decide) ?_
    have hf : (f_X12_contest mPpl mBts mUs mNum mW mUn p o) = ((-1), mUn, mUs, mW) := cd_f c1
    exact g_iret S hr hlk hP hD hS (by rw [hf] <;> rfl) (⟨by rw [hf]; exact hB0, hF⟩) dX12_contest_17
  · have hh1 := isPerson_in (by assumption) c1
    refine lv_aload_n S.1 S.2.1 dX12_contest_8 rfl (lv_at hl 0 rfl) ?_
    refine lv_iload_n S.1 S.2.1 dX12_contest_9 rfl (lv_at hl 2 rfl) ?_
    refine g_aftR0 (st1 := [.int (b2i (f_X12_isPerson mPpl o))]) (g_V (As := [.int o]) (rest := []) S mi_X12_isPerson qw1611 (c_X12_isPerson l D A w α (k) mTaped mErr mPpl mBts mUs mRa mSt mKi mWd mVal mLet mFin mNp mNb mOuts mWant mFnd mTape mNum mNam mFst mBnm mW mUn mSl mKp mnNum mnNam mnBo mnBn o hB0) hK hP hD hE hS (hB0 0 _ rfl) rfl rfl rfl hl.1 (Nat.le_of_ble_eq_true rfl) rfl rfl ⟨(Nat.le_of_ble_eq_true rfl), (Nat.le_of_ble_eq_true rfl)⟩ ⟨(Nat.le_of_ble_eq_true rfl), (Nat.le_of_ble_eq_true rfl)⟩ dX12_contest_10) hS rfl (fun locs hS => ?_)
    refine g_bifne (b := (f_X12_isPerson mPpl o)) (tgt := 18) S dX12_contest_13 (by decide) (fun (c2 : (f_X12_isPerson mPpl o) = true) => ?_) (fun (c2 : (f_X12_isPerson mPpl o) = false) => ?_)
    · have hh2 := isPerson_in (by assumption) c2
      refine lv_aload_n S.1 S.2.1 dX12_contest_18 rfl (lv_at hl 0 rfl) ?_
      refine lv_iload_n S.1 S.2.1 dX12_contest_19 rfl (lv_at hl 1 rfl) ?_
      refine g_aftR0 (st1 := [.int (b2i (f_X12_isAtSea mW p))]) (g_V (As := [.int p]) (rest := []) S mi_X12_isAtSea qw1583 (c_X12_isAtSea l D A w α (k) mTaped mErr mPpl mBts mUs mRa mSt mKi mWd mVal mLet mFin mNp mNb mOuts mWant mFnd mTape mNum mNam mFst mBnm mW mUn mSl mKp mnNum mnNam mnBo mnBn p hB0 (by first | assumption | exact vin_d (by decide) | exact vp_in_nI (by omega) (by decide) | decide | omega)) hK hP hD hE hS (hB0 0 _ rfl) rfl rfl rfl hl.1 (Nat.le_of_ble_eq_true rfl) rfl rfl ⟨(Nat.le_of_ble_eq_true rfl), (Nat.le_of_ble_eq_true rfl)⟩ ⟨(Nat.le_of_ble_eq_true rfl), (Nat.le_of_ble_eq_true rfl)⟩ dX12_contest_20) hS rfl (fun locs hS => ?_)
      refine g_bifeq (b := (f_X12_isAtSea mW p)) (tgt := 29) S dX12_contest_23 (by decide) (fun (c3 : (f_X12_isAtSea mW p) = false) => ?_) (fun (c3 : (f_X12_isAtSea mW p) = true) => ?_)
      · refine lv_aload_n S.1 S.2.1 dX12_contest_29 rfl (lv_at hl 0 rfl) ?_
        refine lv_iload_n S.1 S.2.1 dX12_contest_30 rfl (lv_at hl 2 rfl) ?_
        refine lv_iconst (v := 5) S.1 S.2.1 dX12_contest_31 (by decide) ?_
        refine g_aftR0 (st1 := [.int (f_X12_of mW o 5)]) (g_V (As := [.int o, .int 5]) (rest := []) S mi_X12_of qw1579 (c_X12_of l D A w α (k) mTaped mErr mPpl mBts mUs mRa mSt mKi mWd mVal mLet mFin mNp mNb mOuts mWant mFnd mTape mNum mNam mFst mBnm mW mUn mSl mKp mnNum mnNam mnBo mnBn o 5 hB0 (by first | assumption | exact vin_d (by decide) | exact vp_in_nI (by omega) (by decide) | decide | omega) (by first | assumption | exact vin_d (by decide) | exact vp_in_nI (by omega) (by decide) | decide | omega)) hK hP hD hE hS (hB0 0 _ rfl) rfl rfl rfl hl.1 (Nat.le_of_ble_eq_true rfl) rfl rfl ⟨(Nat.le_of_ble_eq_true rfl), (Nat.le_of_ble_eq_true rfl)⟩ ⟨(Nat.le_of_ble_eq_true rfl), (Nat.le_of_ble_eq_true rfl)⟩ dX12_contest_32) hS rfl (fun locs hS => ?_)
        refine lv_iconst (v := 2) S.1 S.2.1 dX12_contest_35 (by decide) ?_
        refine lv_icmp_ne (tgt := 49) S.1 S.2.1 dX12_contest_36 (by decide) (fun (c4 : ¬ (f_X12_of mW o 5) = 2) => ?_) (fun (c4 : (f_X12_of mW o 5) = 2) => ?_)
        · refine lv_bipush (v := (-4)) S.1 S.2.1 dX12_contest_49 (by decide) ?_
          have hf : (f_X12_contest mPpl mBts mUs mNum mW mUn p o) = ((-4), mUn, mUs, mW) := (cd_t c1).trans ((cd_t c2).trans ((cd_f c3).trans (if_neg c4)))
          exact g_iret S hr hlk hP hD hS (by rw [hf] <;> rfl) (⟨by rw [hf]; exact hB0, hF⟩) dX12_contest_51
        · refine lv_aload_n S.1 S.2.1 dX12_contest_39 rfl (lv_at hl 0 rfl) ?_
          refine lv_iload_n S.1 S.2.1 dX12_contest_40 rfl (lv_at hl 1 rfl) ?_
          refine lv_iconst (v := 2) S.1 S.2.1 dX12_contest_41 (by decide) ?_
          refine g_aftR0 (st1 := [.int (f_X12_of mW p 2)]) (g_V (As := [.int p, .int 2]) (rest := []) S mi_X12_of qw1579 (c_X12_of l D A w α (k) mTaped mErr mPpl mBts mUs mRa mSt mKi mWd mVal mLet mFin mNp mNb mOuts mWant mFnd mTape mNum mNam mFst mBnm mW mUn mSl mKp mnNum mnNam mnBo mnBn p 2 hB0 (by first | assumption | exact vin_d (by decide) | exact vp_in_nI (by omega) (by decide) | decide | omega) (by first | assumption | exact vin_d (by decide) | exact vp_in_nI (by omega) (by decide) | decide | omega)) hK hP hD hE hS (hB0 0 _ rfl) rfl rfl rfl hl.1 (Nat.le_of_ble_eq_true rfl) rfl rfl ⟨(Nat.le_of_ble_eq_true rfl), (Nat.le_of_ble_eq_true rfl)⟩ ⟨(Nat.le_of_ble_eq_true rfl), (Nat.le_of_ble_eq_true rfl)⟩ dX12_contest_42) hS rfl (fun locs hS => ?_)
          refine lv_iconst (v := 3) S.1 S.2.1 dX12_contest_45 (by decide) ?_
          refine lv_icmp_ne (tgt := 52) S.1 S.2.1 dX12_contest_46 (by decide) (fun (c5 : ¬ (f_X12_of mW p 2) = 3) => ?_) (fun (c5 : (f_X12_of mW p 2) = 3) => ?_)
          · refine lv_aload_n S.1 S.2.1 dX12_contest_52 rfl (lv_at hl 0 rfl) ?_
            refine g_aftR0 (st1 := [.int (b2i (f_X12_isInTime mNum mW))]) (g_V (As := []) (rest := []) S mi_X12_isInTime qw1676 (c_X12_isInTime l D A w α (k) mTaped mErr mPpl mBts mUs mRa mSt mKi mWd mVal mLet mFin mNp mNb mOuts mWant mFnd mTape mNum mNam mFst mBnm mW mUn mSl mKp mnNum mnNam mnBo mnBn hB0) hK hP hD hE hS (hB0 0 _ rfl) rfl rfl rfl hl.1 (Nat.le_of_ble_eq_true rfl) rfl rfl ⟨(Nat.le_of_ble_eq_true rfl), (Nat.le_of_ble_eq_true rfl)⟩ ⟨(Nat.le_of_ble_eq_true rfl), (Nat.le_of_ble_eq_true rfl)⟩ dX12_contest_53) hS rfl (fun locs hS => ?_)
            refine g_bifne (b := (f_X12_isInTime mNum mW)) (tgt := 62) S dX12_contest_56 (by decide) (fun (c6 : (f_X12_isInTime mNum mW) = true) => ?_) (fun (c6 : (f_X12_isInTime mNum mW) = false) => ?_)
            · refine lv_aload_n S.1 S.2.1 dX12_contest_62 rfl (lv_at hl 0 rfl) ?_
              refine g_aft0 (st1 := []) (g_V (As := []) (rest := []) S mi_X12_keeps qw1575 (c_X12_keeps l D A w α (k) mTaped mErr mPpl mBts mUs mRa mSt mKi mWd mVal mLet mFin mNp mNb mOuts mWant mFnd mTape mNum mNam mFst mBnm mW mUn mSl mKp mnNum mnNam mnBo mnBn hB0 (by first | assumption | exact vin_d (by decide) | exact vp_in_nI (by omega) (by decide) | decide | omega)) hK hP hD hE hS (hB0 0 _ rfl) rfl rfl rfl hl.1 (Nat.le_of_ble_eq_true rfl) rfl rfl ⟨(Nat.le_of_ble_eq_true rfl), (Nat.le_of_ble_eq_true rfl)⟩ ⟨(Nat.le_of_ble_eq_true rfl), (Nat.le_of_ble_eq_true rfl)⟩ dX12_contest_63) hS rfl (fun w1 H locs hQ hP hD hS => ?_)
              have hF := hF.trans hQ.2
              have hB0 : Blk w1 k (cM D α k mTaped mErr mPpl mBts ((f_X12_keeps mUs mW mUn).2) mRa mSt mKi mWd mVal mLet mFin mNp mNb mOuts mWant mFnd mTape mNum mNam mFst mBnm mW ((f_X12_keeps mUs mW mUn).1) mSl mKp mnNum mnNam mnBo mnBn) := hQ.1
              refine lv_aload_n S.1 S.2.1 dX12_contest_66 rfl (lv_at hl 0 rfl) ?_
              refine lv_iload_n S.1 S.2.1 dX12_contest_67 rfl (lv_at hl 2 rfl) ?_
              refine lv_bipush (v := 10) S.1 S.2.1 dX12_contest_68 (by decide) ?_
              refine g_aftR0 (st1 := [.int (f_X12_of mW o 10)]) (g_V (As := [.int o, .int 10]) (rest := []) S mi_X12_of qw1579 (c_X12_of l D A w1 α (k) mTaped mErr mPpl mBts ((f_X12_keeps mUs mW mUn).2) mRa mSt mKi mWd mVal mLet mFin mNp mNb mOuts mWant mFnd mTape mNum mNam mFst mBnm mW ((f_X12_keeps mUs mW mUn).1) mSl mKp mnNum mnNam mnBo mnBn o 10 hB0 (by first | assumption | exact vin_d (by decide) | exact vp_in_nI (by omega) (by decide) | decide | omega) (by first | assumption | exact vin_d (by decide) | exact vp_in_nI (by omega) (by decide) | decide | omega)) hK hP hD hE hS (hB0 0 _ rfl) rfl rfl rfl hl.1 (Nat.le_of_ble_eq_true rfl) rfl rfl ⟨(Nat.le_of_ble_eq_true rfl), (Nat.le_of_ble_eq_true rfl)⟩ ⟨(Nat.le_of_ble_eq_true rfl), (Nat.le_of_ble_eq_true rfl)⟩ dX12_contest_70) hS rfl (fun locs hS => ?_)
              refine lv_istore_n (lv' := [(3, .int (f_X12_of mW o 10)), (0, .ref (α (k))), (1, .int p), (2, .int o)]) S.1 S.2.1 dX12_contest_73 rfl hl (by decide) rfl (fun ls hl => ?_)
              refine lv_iload_n S.1 S.2.1 dX12_contest_74 rfl (lv_at hl 0 rfl) ?_
              refine lv_if_le (tgt := 88) S.1 S.2.1 dX12_contest_75 (by decide) (fun (c7 : (f_X12_of mW o 10) ≤ 0) => ?_) (fun (c7 : ¬ (f_X12_of mW o 10) ≤ 0) => ?_)
              · refine lv_aload_n S.1 S.2.1 dX12_contest_88 rfl (lv_at hl 1 rfl) ?_
                refine lv_iload_n S.1 S.2.1 dX12_contest_89 rfl (lv_at hl 2 rfl) ?_
                refine lv_iconst (v := 2) S.1 S.2.1 dX12_contest_90 (by decide) ?_
                refine lv_aload_n S.1 S.2.1 dX12_contest_91 rfl (lv_at hl 1 rfl) ?_
                refine lv_iload_n S.1 S.2.1 dX12_contest_92 rfl (lv_at hl 2 rfl) ?_
                refine lv_iconst (v := 2) S.1 S.2.1 dX12_contest_93 (by decide) ?_
                refine g_aftR0 (st1 := [.int (f_X12_of mW p 2), .int 2, .int p, .ref (α (k))]) (g_V (As := [.int p, .int 2]) (rest := [.int 2, .int p, .ref (α (k))]) S mi_X12_of qw1579 (c_X12_of l D A w1 α (k) mTaped mErr mPpl mBts ((f_X12_keeps mUs mW mUn).2) mRa mSt mKi mWd mVal mLet mFin mNp mNb mOuts mWant mFnd mTape mNum mNam mFst mBnm mW ((f_X12_keeps mUs mW mUn).1) mSl mKp mnNum mnNam mnBo mnBn p 2 hB0 (by first | assumption | exact vin_d (by decide) | exact vp_in_nI (by omega) (by decide) | decide | omega) (by first | assumption | exact vin_d (by decide) | exact vp_in_nI (by omega) (by decide) | decide | omega)) hK hP hD hE hS (hB0 0 _ rfl) rfl rfl rfl hl.1 (Nat.le_of_ble_eq_true rfl) rfl rfl ⟨(Nat.le_of_ble_eq_true rfl), (Nat.le_of_ble_eq_true rfl)⟩ ⟨(Nat.le_of_ble_eq_true rfl), (Nat.le_of_ble_eq_true rfl)⟩ dX12_contest_94) hS rfl (fun locs hS => ?_)
                refine lv_iconst (v := 1) S.1 S.2.1 dX12_contest_97 (by decide) ?_
                refine lv_iadd S.1 S.2.1 dX12_contest_98 ?_
                refine g_aft0 (st1 := []) (g_V (As := [.int p, .int 2, .int ((f_X12_of mW p 2) + 1)]) (rest := []) S mi_X12_sets qw1362 (c_X12_sets l D A w1 α (k) mTaped mErr mPpl mBts ((f_X12_keeps mUs mW mUn).2) mRa mSt mKi mWd mVal mLet mFin mNp mNb mOuts mWant mFnd mTape mNum mNam mFst mBnm mW ((f_X12_keeps mUs mW mUn).1) mSl mKp mnNum mnNam mnBo mnBn p 2 ((f_X12_of mW p 2) + 1) hB0 (by first | assumption | exact vin_d (by decide) | exact vp_in_nI (by omega) (by decide) | decide | omega) (by first | assumption | exact vin_d (by decide) | exact vp_in_nI (by omega) (by decide) | decide | omega)) hK hP hD hE hS (hB0 0 _ rfl) rfl rfl rfl hl.1 (Nat.le_of_ble_eq_true rfl) rfl rfl ⟨(Nat.le_of_ble_eq_true rfl), (Nat.le_of_ble_eq_true rfl)⟩ ⟨(Nat.le_of_ble_eq_true rfl), (Nat.le_of_ble_eq_true rfl)⟩ dX12_contest_99) hS rfl (fun w2 H locs hQ hP hD hS => ?_)
                have hF := hF.trans hQ.2
                have hB0 : Blk w2 k (cM D α k mTaped mErr mPpl mBts ((f_X12_keeps mUs mW mUn).2) mRa mSt mKi mWd mVal mLet mFin mNp mNb mOuts mWant mFnd mTape mNum mNam mFst mBnm (f_X12_sets mW p 2 ((f_X12_of mW p 2) + 1)) ((f_X12_keeps mUs mW mUn).1) mSl mKp mnNum mnNam mnBo mnBn) := hQ.1
                refine lv_aload_n S.1 S.2.1 dX12_contest_102 rfl (lv_at hl 1 rfl) ?_
                refine lv_iconst (v := 5) S.1 S.2.1 dX12_contest_103 (by decide) ?_
                refine lv_iload_n S.1 S.2.1 dX12_contest_104 rfl (lv_at hl 2 rfl) ?_
                refine lv_aload_n S.1 S.2.1 dX12_contest_105 rfl (lv_at hl 1 rfl) ?_
                refine lv_iload_n S.1 S.2.1 dX12_contest_106 rfl (lv_at hl 2 rfl) ?_
                refine lv_iconst (v := 2) S.1 S.2.1 dX12_contest_107 (by decide) ?_
                refine g_aftR0 (st1 := [.int (f_X12_of (f_X12_sets mW p 2 ((f_X12_of mW p 2) + 1)) p 2), .int p, .int 5, .ref (α (k))]) (g_V (As := [.int p, .int 2]) (rest := [.int p, .int 5, .ref (α (k))]) S mi_X12_of qw1579 (c_X12_of l D A w2 α (k) mTaped mErr mPpl mBts ((f_X12_keeps mUs mW mUn).2) mRa mSt mKi mWd mVal mLet mFin mNp mNb mOuts mWant mFnd mTape mNum mNam mFst mBnm (f_X12_sets mW p 2 ((f_X12_of mW p 2) + 1)) ((f_X12_keeps mUs mW mUn).1) mSl mKp mnNum mnNam mnBo mnBn p 2 hB0 (by first | assumption | exact vin_d (by decide) | exact vp_in_nI (by omega) (by decide) | decide | omega) (by first | assumption | exact vin_d (by decide) | exact vp_in_nI (by omega) (by decide) | decide | omega)) hK hP hD hE hS (hB0 0 _ rfl) rfl rfl rfl hl.1 (Nat.le_of_ble_eq_true rfl) rfl rfl ⟨(Nat.le_of_ble_eq_true rfl), (Nat.le_of_ble_eq_true rfl)⟩ ⟨(Nat.le_of_ble_eq_true rfl), (Nat.le_of_ble_eq_true rfl)⟩ dX12_contest_108) hS rfl (fun locs hS => ?_)
                refine g_aft0 (st1 := []) (g_V (As := [.int 5, .int p, .int (f_X12_of (f_X12_sets mW p 2 ((f_X12_of mW p 2) + 1)) p 2)]) (rest := []) S mi_X12_tells qw1591 (c_X12_tells l D A w2 α (k) mTaped mErr mPpl mBts ((f_X12_keeps mUs mW mUn).2) mRa mSt mKi mWd mVal mLet mFin mNp mNb mOuts mWant mFnd mTape mNum mNam mFst mBnm (f_X12_sets mW p 2 ((f_X12_of mW p 2) + 1)) ((f_X12_keeps mUs mW mUn).1) mSl mKp mnNum mnNam mnBo mnBn 5 p (f_X12_of (f_X12_sets mW p 2 ((f_X12_of mW p 2) + 1)) p 2) hB0 (by exact (lg_sets hy5 (by assumption) (vin_d (by decide))))) hK hP hD hE hS (hB0 0 _ rfl) rfl rfl rfl hl.1 (Nat.le_of_ble_eq_true rfl) rfl rfl ⟨(Nat.le_of_ble_eq_true rfl), (Nat.le_of_ble_eq_true rfl)⟩ ⟨(Nat.le_of_ble_eq_true rfl), (Nat.le_of_ble_eq_true rfl)⟩ dX12_contest_111) hS rfl (fun w3 H locs hQ hP hD hS => ?_)
                have hF := hF.trans hQ.2
                have hB0 : Blk w3 k (cM D α k mTaped mErr mPpl mBts ((f_X12_keeps mUs mW mUn).2) mRa mSt mKi mWd mVal mLet mFin mNp mNb mOuts mWant mFnd mTape mNum mNam mFst mBnm (f_X12_tells (f_X12_sets mW p 2 ((f_X12_of mW p 2) + 1)) 5 p (f_X12_of (f_X12_sets mW p 2 ((f_X12_of mW p 2) + 1)) p 2)) ((f_X12_keeps mUs mW mUn).1) mSl mKp mnNum mnNam mnBo mnBn) := hQ.1
                refine lv_iload_n S.1 S.2.1 dX12_contest_114 rfl (lv_at hl 0 rfl) ?_
                have hf : (f_X12_contest mPpl mBts mUs mNum mW mUn p o) = ((f_X12_of mW o 10), (f_X12_keeps mUs mW mUn).1, (f_X12_keeps mUs mW mUn).2, (f_X12_tells (f_X12_sets mW p 2 ((f_X12_of mW p 2) + 1)) 5 p (f_X12_of (f_X12_sets mW p 2 ((f_X12_of mW p 2) + 1)) p 2))) := (cd_t c1).trans ((cd_t c2).trans ((cd_f c3).trans ((if_pos c4).trans ((if_neg c5).trans ((cd_t c6).trans (if_pos c7))))))
                exact g_iret S hr hlk hP hD hS (by rw [hf] <;> rfl) (⟨by rw [hf]; exact hB0, hF⟩) dX12_contest_115
              · refine lv_aload_n S.1 S.2.1 dX12_contest_78 rfl (lv_at hl 1 rfl) ?_
                refine lv_iconst (v := 1) S.1 S.2.1 dX12_contest_79 (by decide) ?_
                refine lv_iload_n S.1 S.2.1 dX12_contest_80 rfl (lv_at hl 3 rfl) ?_
                refine lv_ishl S.1 S.2.1 dX12_contest_81 ?_
                refine g_aft0 (st1 := []) (g_V (As := [.int ((1 : Int32) <<< (o &&& 31))]) (rest := []) S mi_X12_strikes qw1684 (c_X12_strikes l D A w1 α (k) mTaped mErr mPpl mBts ((f_X12_keeps mUs mW mUn).2) mRa mSt mKi mWd mVal mLet mFin mNp mNb mOuts mWant mFnd mTape mNum mNam mFst mBnm mW ((f_X12_keeps mUs mW mUn).1) mSl mKp mnNum mnNam mnBo mnBn ((1 : Int32) <<< (o &&& 31)) hB0 (by first | assumption | exact vin_d (by decide) | exact vp_in_nI (by omega) (by decide) | decide | omega) (by first | assumption | exact vin_d (by decide) | exact vp_in_nI (by omega) (by decide) | decide | omega) (by first | assumption | exact vin_d (by decide) | exact vp_in_nI (by omega) (by decide) | decide | omega) (by first | assumption | exact vin_d (by decide) | exact vp_in_nI (by omega) (by decide) | decide | omega) (by first | assumption | exact vin_d (by decide) | exact vp_in_nI (by omega) (by decide) | decide | omega) (by exact inTime_v (by assumption))) hK hP hD hE hS (hB0 0 _ rfl) rfl rfl rfl hl.1 (Nat.le_of_ble_eq_true rfl) rfl rfl ⟨(Nat.le_of_ble_eq_true rfl), (Nat.le_of_ble_eq_true rfl)⟩ ⟨(Nat.le_of_ble_eq_true rfl), (Nat.le_of_ble_eq_true rfl)⟩ dX12_contest_82) hS rfl (fun w4 H locs hQ hP hD hS => ?_)
                have hF := hF.trans hQ.2
                have hB0 : Blk w4 k (cM D α k mTaped mErr mPpl mBts ((f_X12_keeps mUs mW mUn).2) mRa mSt mKi mWd mVal mLet mFin mNp mNb mOuts mWant mFnd mTape mNum mNam mFst mBnm (f_X12_strikes mPpl mBts mNum mW ((1 : Int32) <<< (o &&& 31))) ((f_X12_keeps mUs mW mUn).1) mSl mKp mnNum mnNam mnBo mnBn) := hQ.1
                refine lv_goto (tgt := 114) S.1 S.2.1 dX12_contest_85 (by decide) ?_
                refine lv_iload_n S.1 S.2.1 dX12_contest_114 rfl (lv_at hl 0 rfl) ?_
                have hf : (f_X12_contest mPpl mBts mUs mNum mW mUn p o) = ((f_X12_of mW o 10), (f_X12_keeps mUs mW mUn).1, (f_X12_keeps mUs mW mUn).2, (f_X12_strikes mPpl mBts mNum mW ((1 : Int32) <<< (o &&& 31)))) := (cd_t c1).trans ((cd_t c2).trans ((cd_f c3).trans ((if_pos c4).trans ((if_neg c5).trans ((cd_t c6).trans (if_neg c7))))))
                exact g_iret S hr hlk hP hD hS (by rw [hf] <;> rfl) (⟨by rw [hf]; exact hB0, hF⟩) dX12_contest_115
            · refine lv_bipush (v := (-5)) S.1 S.2.1 dX12_contest_59 (by decide) ?_
              have hf : (f_X12_contest mPpl mBts mUs mNum mW mUn p o) = ((-5), mUn, mUs, mW) := (cd_t c1).trans ((cd_t c2).trans ((cd_f c3).trans ((if_pos c4).trans ((if_neg c5).trans (cd_f c6)))))
              exact g_iret S hr hlk hP hD hS (by rw [hf] <;> rfl) (⟨by rw [hf]; exact hB0, hF⟩) dX12_contest_61
          · refine lv_bipush (v := (-4)) S.1 S.2.1 dX12_contest_49 (by decide) ?_
            have hf : (f_X12_contest mPpl mBts mUs mNum mW mUn p o) = ((-4), mUn, mUs, mW) := (cd_t c1).trans ((cd_t c2).trans ((cd_f c3).trans ((if_pos c4).trans (if_pos c5))))
            exact g_iret S hr hlk hP hD hS (by rw [hf] <;> rfl) (⟨by rw [hf]; exact hB0, hF⟩) dX12_contest_51
      · refine lv_bipush (v := (-3)) S.1 S.2.1 dX12_contest_26 (by decide) ?_
        have hf : (f_X12_contest mPpl mBts mUs mNum mW mUn p o) = ((-3), mUn, mUs, mW) := (cd_t c1).trans ((cd_t c2).trans (cd_t c3))
        exact g_iret S hr hlk hP hD hS (by rw [hf] <;> rfl) (⟨by rw [hf]; exact hB0, hF⟩) dX12_contest_28
    · refine lv_iconst (v := (-1)) S.1 S.2.1 dX12_contest_16 (by decide) ?_
      have hf : (f_X12_contest mPpl mBts mUs mNum mW mUn p o) = ((-1), mUn, mUs, mW) := (cd_t c1).trans (cd_f c2)
      exact g_iret S hr hlk hP hD hS (by rw [hf] <;> rfl) (⟨by rw [hf]; exact hB0, hF⟩) dX12_contest_17
