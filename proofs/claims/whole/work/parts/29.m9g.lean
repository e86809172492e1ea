def S_X12_lay_18 (mUs : Int32) (mW : Nat → Int32) (mUn : Nat → Int32) : (Nat → Int32) × Int32 := (f_X12_keeps mUs mW mUn)
def S_X12_lay_25 (mW : Nat → Int32) (o : Int32) : (Nat → Int32) := (f_X12_sets mW o 5 2)
def S_X12_lay_33 (mW : Nat → Int32) (o : Int32) (b : Int32) : (Nat → Int32) := (f_X12_sets (S_X12_lay_25 mW o) o 8 b)
def S_X12_lay_46 (mW : Nat → Int32) (o : Int32) (b : Int32) : (Nat → Int32) := (f_X12_sets (S_X12_lay_33 mW o b) o 9 ((S_X12_lay_33 mW o b) 0))
def S_X12_lay_55 (mPpl : Int32) (mNum : Nat → Int32) (mW : Nat → Int32) (p : Int32) (o : Int32) (b : Int32) : (Nat → Int32) := (f_X12_sets (S_X12_lay_46 mW o b) o 10 (f_X12_would mPpl mNum mW p o b))
def J_X12_lay_69 (p : Int32) (o : Int32) : Int32 := (if p = o then 0 else 1)
def S_X12_lay_78 (mPpl : Int32) (mNum : Nat → Int32) (mW : Nat → Int32) (p : Int32) (o : Int32) (b : Int32) : (Nat → Int32) := (f_X12_sets (S_X12_lay_55 mPpl mNum mW p o b) p 4 ((f_X12_of (S_X12_lay_55 mPpl mNum mW p o b) p 4) + (J_X12_lay_69 p o)))
def S_X12_lay_96 (mPpl : Int32) (mNum : Nat → Int32) (mW : Nat → Int32) (p : Int32) (o : Int32) (b : Int32) : (Nat → Int32) := (f_X12_tells (upd (S_X12_lay_78 mPpl mNum mW p o b) 7 (((S_X12_lay_78 mPpl mNum mW p o b) 7) + 1)) 3 o b)
def f_X12_lay (mPpl : Int32) (mUs : Int32) (mNum : Nat → Int32) (mW : Nat → Int32) (mUn : Nat → Int32) (p : Int32) (o : Int32) (b : Int32) : Int32 × (Nat → Int32) × Int32 × (Nat → Int32) := (if 0 ≤ (f_X12_would mPpl mNum mW p o b) then ((f_X12_ones (f_X12_setIn mPpl (S_X12_lay_96 mPpl mNum mW p o b) b)), (S_X12_lay_18 mUs mW mUn).1, (S_X12_lay_18 mUs mW mUn).2, (S_X12_lay_96 mPpl mNum mW p o b)) else ((f_X12_would mPpl mNum mW p o b), mUn, mUs, mW))
theorem would_in {mPpl p o b : Int32} {mNum mW : Nat → Int32} (h : vp_in mPpl 21) (c : 0 ≤ f_X12_would mPpl mNum mW p o b) : vp_in p 20 ∧ vp_in o 20 := by
  unfold f_X12_would at c
  cases h1 : f_X12_isPerson mPpl p
  · rw [h1, cond_false] at c; exact absurd c (by decide)
  · cases h2 : f_X12_isPerson mPpl o
    · rw [h1, h2, cond_true, cond_false] at c; exact absurd c (by decide)
    · exact ⟨isPerson_in h h1, isPerson_in h h2⟩
set_option maxHeartbeats 4000000 in
set_option maxRecDepth 100000 in
theorem c_X12_lay (l : Launch) (D : va_G) (A : Nat → Prop) (w : va_W) (α : Nat → Nat) (k : Nat) (mTaped : Int32) (mErr : Int32) (mPpl : Int32) (mBts : Int32) (mUs : Int32) (mRa : Int32) (mSt : Int32) (mKi : Int32) (mWd : Int64) (mVal : Int32) (mLet : Int32) (mFin : Int32) (mNp : Int32) (mNb : Int32) (mOuts : Int32) (mWant : Int32) (mFnd : Int32) (mTape : Nat → Int32) (mNum : Nat → Int32) (mNam : Nat → Int32) (mFst : Nat → Int32) (mBnm : Nat → Int32) (mW : Nat → Int32) (mUn : Nat → Int32) (mSl : Nat → Int32) (mKp : Nat → Int32) (mnNum : Nat → Int32) (mnNam : Nat → Int32) (mnBo : Nat → Int32) (mnBn : Nat → Int32) (p : Int32) (o : Int32) (b : Int32) (hB0 : Blk w k (cM D α k mTaped mErr mPpl mBts mUs mRa mSt mKi mWd mVal mLet mFin mNp mNb mOuts mWant mFnd mTape mNum mNam mFst mBnm mW mUn mSl mKp mnNum mnNam mnBo mnBn)) (hy0 : vp_in mUs 9) (hy1 : vp_in mPpl 21) (hy2 : vp_in (mW 8) 31) : Met l yX12_lay (ws_ yX12_lay cX12_lay 5 (some .int)) ({ frames := 4, cells := 0, slots := 0, locals := 90 }) (gPre D A [.ref (α (k)), .int p, .int o, .int b] w) (gQ D A (some (.int (f_X12_lay mPpl mUs mNum mW mUn p o b).1)) (fun w1 => Blk w1 k (cM D α k mTaped mErr mPpl mBts ((f_X12_lay mPpl mUs mNum mW mUn p o b).2.2.1) mRa mSt mKi mWd mVal mLet mFin mNp mNb mOuts mWant mFnd mTape mNum mNam mFst mBnm ((f_X12_lay mPpl mUs mNum mW mUn p o b).2.2.2) ((f_X12_lay mPpl mUs mNum mW mUn p o b).2.1) mSl mKp mnNum mnNam mnBo mnBn) ∧ Same w w1 k 14)) 0 0 A := by
  refine g_met [(0, .ref (α (k))), (1, .int p), (2, .int o), (3, .int b)] (plainFor_of_name (by decide)) (Nat.le_of_ble_eq_true rfl) rfl (fun pg en s mi ar below me co ls S hK hP hD hE hS hr hlk hnm hl => ?_)
  have hF : Same w w k 14 := Same.rf
  refine lv_aload_n S.1 S.2.1 dX12_lay_0 rfl (lv_at hl 0 rfl) ?_
  refine lv_iload_n S.1 S.2.1 dX12_lay_1 rfl (lv_at hl 1 rfl) ?_
  refine lv_iload_n S.1 S.2.1 dX12_lay_2 rfl (lv_at hl 2 rfl) ?_
  refine lv_iload_n S.1 S.2.1 dX12_lay_3 rfl (lv_at hl 3 rfl) ?_
  refine g_aftR0 (st1 := [.int (f_X12_would mPpl mNum mW p o b)]) (g_V (As := [.int p, .int o, .int b]) (rest := []) S mi_X12_would qw1656 (c_X12_would l D A w α (k) mTaped mErr mPpl mBts mUs mRa mSt mKi mWd mVal mLet mFin mNp mNb mOuts mWant mFnd mTape mNum mNam mFst mBnm mW mUn mSl mKp mnNum mnNam mnBo mnBn p o b hB0 (by first | assumption | exact vin_d (by decide) | exact vp_in_nI (by omega) (by decide) | decide | omega)) hK hP hD hE hS (hB0 0 _ rfl) rfl rfl rfl hl.1 (Nat.le_of_ble_eq_true rfl) rfl rfl ⟨(Nat.le_of_ble_eq_true rfl), (Nat.le_of_ble_eq_true rfl)⟩ ⟨(Nat.le_of_ble_eq_true rfl), (Nat.le_of_ble_eq_true rfl)⟩ dX12_lay_4) hS rfl (fun locs hS => ?_)
  refine lv_istore (lv' := [(4, .int (f_X12_would mPpl mNum mW p o b)), (0, .ref (α (k))), (1, .int p), (2, .int o), (3, .int b)]) S.1 S.2.1 dX12_lay_7 hl (by decide) rfl (fun ls hl => ?_)
  refine lv_iload S.1 S.2.1 dX12_lay_9 (lv_at hl 0 rfl) ?_
  refine lv_if_ge (tgt := 17) S.1 S.2.1 dX12_lay_11 (by decide) (fun (c1 : 0 ≤ (f_X12_would mPpl mNum mW p o b)) => ?_) (fun (c1 : ¬ 0 ≤ (f_X12_would mPpl mNum mW p o b)) => ?_)
  · obtain ⟨hwp, hwo⟩ := would_in hy1 c1
    refine lv_aload_n S.1 S.2.1 dX12_lay_17 rfl (lv_at hl 1 rfl) ?_
    refine g_aft0 (st1 := []) (g_V (As := []) (rest := []) S mi_X12_keeps qw1575 (c_X12_keeps l D A w α (k) mTaped mErr mPpl mBts mUs mRa mSt mKi mWd mVal mLet mFin mNp mNb mOuts mWant mFnd mTape mNum mNam mFst mBnm mW mUn mSl mKp mnNum mnNam mnBo mnBn hB0 (by first | assumption | exact vin_d (by decide) | exact vp_in_nI (by omega) (by decide) | decide | omega)) hK hP hD hE hS (hB0 0 _ rfl) rfl rfl rfl hl.1 (Nat.le_of_ble_eq_true rfl) rfl rfl ⟨(Nat.le_of_ble_eq_true rfl), (Nat.le_of_ble_eq_true rfl)⟩ ⟨(Nat.le_of_ble_eq_true rfl), (Nat.le_of_ble_eq_true rfl)⟩ dX12_lay_18) hS rfl (fun w1 H locs hQ hP hD hS => ?_)
    have hF := hF.trans hQ.2
    have hB0 : Blk w1 k (cM D α k mTaped mErr mPpl mBts ((S_X12_lay_18 mUs mW mUn).2) mRa mSt mKi mWd mVal mLet mFin mNp mNb mOuts mWant mFnd mTape mNum mNam mFst mBnm mW ((S_X12_lay_18 mUs mW mUn).1) mSl mKp mnNum mnNam mnBo mnBn) := hQ.1
    refine lv_aload_n S.1 S.2.1 dX12_lay_21 rfl (lv_at hl 1 rfl) ?_
    refine lv_iload_n S.1 S.2.1 dX12_lay_22 rfl (lv_at hl 3 rfl) ?_
    refine lv_iconst (v := 5) S.1 S.2.1 dX12_lay_23 (by decide) ?_
    refine lv_iconst (v := 2) S.1 S.2.1 dX12_lay_24 (by decide) ?_
    refine g_aft0 (st1 := []) (g_V (As := [.int o, .int 5, .int 2]) (rest := []) S mi_X12_sets qw1362 (c_X12_sets l D A w1 α (k) mTaped mErr mPpl mBts ((S_X12_lay_18 mUs mW mUn).2) mRa mSt mKi mWd mVal mLet mFin mNp mNb mOuts mWant mFnd mTape mNum mNam mFst mBnm mW ((S_X12_lay_18 mUs mW mUn).1) mSl mKp mnNum mnNam mnBo mnBn o 5 2 hB0 (by first | assumption | exact vin_d (by decide) | exact vp_in_nI (by omega) (by decide) | decide | omega) (by first | assumption | exact vin_d (by decide) | exact vp_in_nI (by omega) (by decide) | decide | omega)) hK hP hD hE hS (hB0 0 _ rfl) rfl rfl rfl hl.1 (Nat.le_of_ble_eq_true rfl) rfl rfl ⟨(Nat.le_of_ble_eq_true rfl), (Nat.le_of_ble_eq_true rfl)⟩ ⟨(Nat.le_of_ble_eq_true rfl), (Nat.le_of_ble_eq_true rfl)⟩ dX12_lay_25) hS rfl (fun w2 H locs hQ hP hD hS => ?_)
    have hF := hF.trans hQ.2
    have hB0 : Blk w2 k (cM D α k mTaped mErr mPpl mBts ((S_X12_lay_18 mUs mW mUn).2) mRa mSt mKi mWd mVal mLet mFin mNp mNb mOuts mWant mFnd mTape mNum mNam mFst mBnm (S_X12_lay_25 mW o) ((S_X12_lay_18 mUs mW mUn).1) mSl mKp mnNum mnNam mnBo mnBn) := hQ.1
    refine lv_aload_n S.1 S.2.1 dX12_lay_28 rfl (lv_at hl 1 rfl) ?_
    refine lv_iload_n S.1 S.2.1 dX12_lay_29 rfl (lv_at hl 3 rfl) ?_
    refine lv_bipush (v := 8) S.1 S.2.1 dX12_lay_30 (by decide) ?_
    refine lv_iload_n S.1 S.2.1 dX12_lay_32 rfl (lv_at hl 4 rfl) ?_
    refine g_aft0 (st1 := []) (g_V (As := [.int o, .int 8, .int b]) (rest := []) S mi_X12_sets qw1362 (c_X12_sets l D A w2 α (k) mTaped mErr mPpl mBts ((S_X12_lay_18 mUs mW mUn).2) mRa mSt mKi mWd mVal mLet mFin mNp mNb mOuts mWant mFnd mTape mNum mNam mFst mBnm (S_X12_lay_25 mW o) ((S_X12_lay_18 mUs mW mUn).1) mSl mKp mnNum mnNam mnBo mnBn o 8 b hB0 (by first | assumption | exact vin_d (by decide) | exact vp_in_nI (by omega) (by decide) | decide | omega) (by first | assumption | exact vin_d (by decide) | exact vp_in_nI (by omega) (by decide) | decide | omega)) hK hP hD hE hS (hB0 0 _ rfl) rfl rfl rfl hl.1 (Nat.le_of_ble_eq_true rfl) rfl rfl ⟨(Nat.le_of_ble_eq_true rfl), (Nat.le_of_ble_eq_true rfl)⟩ ⟨(Nat.le_of_ble_eq_true rfl), (Nat.le_of_ble_eq_true rfl)⟩ dX12_lay_33) hS rfl (fun w3 H locs hQ hP hD hS => ?_)
    have hF := hF.trans hQ.2
    have hB0 : Blk w3 k (cM D α k mTaped mErr mPpl mBts ((S_X12_lay_18 mUs mW mUn).2) mRa mSt mKi mWd mVal mLet mFin mNp mNb mOuts mWant mFnd mTape mNum mNam mFst mBnm (S_X12_lay_33 mW o b) ((S_X12_lay_18 mUs mW mUn).1) mSl mKp mnNum mnNam mnBo mnBn) := hQ.1
    refine lv_aload_n S.1 S.2.1 dX12_lay_36 rfl (lv_at hl 1 rfl) ?_
    refine lv_iload_n S.1 S.2.1 dX12_lay_37 rfl (lv_at hl 3 rfl) ?_
    refine lv_bipush (v := 9) S.1 S.2.1 dX12_lay_38 (by decide) ?_
    refine lv_aload_n S.1 S.2.1 dX12_lay_40 rfl (lv_at hl 1 rfl) ?_
    refine g_get (v := .ref (α (k + 6))) S hK hP (hB0 0 _ rfl) rfl inX12 9 (by decide) qw1383 rfl dX12_lay_41 ?_
    refine lv_iconst (v := 0) S.1 S.2.1 dX12_lay_44 (by decide) ?_
    refine g_iald S hK hP (hB0 6 _ rfl) (by first | assumption | exact vin_d (by decide) | exact vp_in_nI (by omega) (by decide) | decide) dX12_lay_45 ?_
    refine g_aft0 (st1 := []) (g_V (As := [.int o, .int 9, .int ((S_X12_lay_33 mW o b) 0)]) (rest := []) S mi_X12_sets qw1362 (c_X12_sets l D A w3 α (k) mTaped mErr mPpl mBts ((S_X12_lay_18 mUs mW mUn).2) mRa mSt mKi mWd mVal mLet mFin mNp mNb mOuts mWant mFnd mTape mNum mNam mFst mBnm (S_X12_lay_33 mW o b) ((S_X12_lay_18 mUs mW mUn).1) mSl mKp mnNum mnNam mnBo mnBn o 9 ((S_X12_lay_33 mW o b) 0) hB0 (by first | assumption | exact vin_d (by decide) | exact vp_in_nI (by omega) (by decide) | decide | omega) (by first | assumption | exact vin_d (by decide) | exact vp_in_nI (by omega) (by decide) | decide | omega)) hK hP hD hE hS (hB0 0 _ rfl) rfl rfl rfl hl.1 (Nat.le_of_ble_eq_true rfl) rfl rfl ⟨(Nat.le_of_ble_eq_true rfl), (Nat.le_of_ble_eq_true rfl)⟩ ⟨(Nat.le_of_ble_eq_true rfl), (Nat.le_of_ble_eq_true rfl)⟩ dX12_lay_46) hS rfl (fun w4 H locs hQ hP hD hS => ?_)
    have hF := hF.trans hQ.2
    have hB0 : Blk w4 k (cM D α k mTaped mErr mPpl mBts ((S_X12_lay_18 mUs mW mUn).2) mRa mSt mKi mWd mVal mLet mFin mNp mNb mOuts mWant mFnd mTape mNum mNam mFst mBnm (S_X12_lay_46 mW o b) ((S_X12_lay_18 mUs mW mUn).1) mSl mKp mnNum mnNam mnBo mnBn) := hQ.1
    refine lv_aload_n S.1 S.2.1 dX12_lay_49 rfl (lv_at hl 1 rfl) ?_
    refine lv_iload_n S.1 S.2.1 dX12_lay_50 rfl (lv_at hl 3 rfl) ?_
    refine lv_bipush (v := 10) S.1 S.2.1 dX12_lay_51 (by decide) ?_
    refine lv_iload S.1 S.2.1 dX12_lay_53 (lv_at hl 0 rfl) ?_
    refine g_aft0 (st1 := []) (g_V (As := [.int o, .int 10, .int (f_X12_would mPpl mNum mW p o b)]) (rest := []) S mi_X12_sets qw1362 (c_X12_sets l D A w4 α (k) mTaped mErr mPpl mBts ((S_X12_lay_18 mUs mW mUn).2) mRa mSt mKi mWd mVal mLet mFin mNp mNb mOuts mWant mFnd mTape mNum mNam mFst mBnm (S_X12_lay_46 mW o b) ((S_X12_lay_18 mUs mW mUn).1) mSl mKp mnNum mnNam mnBo mnBn o 10 (f_X12_would mPpl mNum mW p o b) hB0 (by first | assumption | exact vin_d (by decide) | exact vp_in_nI (by omega) (by decide) | decide | omega) (by first | assumption | exact vin_d (by decide) | exact vp_in_nI (by omega) (by decide) | decide | omega)) hK hP hD hE hS (hB0 0 _ rfl) rfl rfl rfl hl.1 (Nat.le_of_ble_eq_true rfl) rfl rfl ⟨(Nat.le_of_ble_eq_true rfl), (Nat.le_of_ble_eq_true rfl)⟩ ⟨(Nat.le_of_ble_eq_true rfl), (Nat.le_of_ble_eq_true rfl)⟩ dX12_lay_55) hS rfl (fun w5 H locs hQ hP hD hS => ?_)
    have hF := hF.trans hQ.2
    have hB0 : Blk w5 k (cM D α k mTaped mErr mPpl mBts ((S_X12_lay_18 mUs mW mUn).2) mRa mSt mKi mWd mVal mLet mFin mNp mNb mOuts mWant mFnd mTape mNum mNam mFst mBnm (S_X12_lay_55 mPpl mNum mW p o b) ((S_X12_lay_18 mUs mW mUn).1) mSl mKp mnNum mnNam mnBo mnBn) := hQ.1
    refine lv_aload_n S.1 S.2.1 dX12_lay_58 rfl (lv_at hl 1 rfl) ?_
    refine lv_iload_n S.1 S.2.1 dX12_lay_59 rfl (lv_at hl 2 rfl) ?_
    refine lv_iconst (v := 4) S.1 S.2.1 dX12_lay_60 (by decide) ?_
    refine lv_aload_n S.1 S.2.1 dX12_lay_61 rfl (lv_at hl 1 rfl) ?_
    refine lv_iload_n S.1 S.2.1 dX12_lay_62 rfl (lv_at hl 2 rfl) ?_
    refine lv_iconst (v := 4) S.1 S.2.1 dX12_lay_63 (by decide) ?_
    refine g_aftR0 (st1 := [.int (f_X12_of (S_X12_lay_55 mPpl mNum mW p o b) p 4), .int 4, .int p, .ref (α (k))]) (g_V (As := [.int p, .int 4]) (rest := [.int 4, .int p, .ref (α (k))]) S mi_X12_of qw1579 (c_X12_of l D A w5 α (k) mTaped mErr mPpl mBts ((S_X12_lay_18 mUs mW mUn).2) mRa mSt mKi mWd mVal mLet mFin mNp mNb mOuts mWant mFnd mTape mNum mNam mFst mBnm (S_X12_lay_55 mPpl mNum mW p o b) ((S_X12_lay_18 mUs mW mUn).1) mSl mKp mnNum mnNam mnBo mnBn p 4 hB0 (by first | assumption | exact vin_d (by decide) | exact vp_in_nI (by omega) (by decide) | decide | omega) (by first | assumption | exact vin_d (by decide) | exact vp_in_nI (by omega) (by decide) | decide | omega)) hK hP hD hE hS (hB0 0 _ rfl) rfl rfl rfl hl.1 (Nat.le_of_ble_eq_true rfl) rfl rfl ⟨(Nat.le_of_ble_eq_true rfl), (Nat.le_of_ble_eq_true rfl)⟩ ⟨(Nat.le_of_ble_eq_true rfl), (Nat.le_of_ble_eq_true rfl)⟩ dX12_lay_64) hS rfl (fun locs hS => ?_)
    refine lv_iload_n S.1 S.2.1 dX12_lay_67 rfl (lv_at hl 2 rfl) ?_
    refine lv_iload_n S.1 S.2.1 dX12_lay_68 rfl (lv_at hl 3 rfl) ?_
    have jn69 : ∀ (wl : va_W) (H : Heap) (locs : List Loc) (ls : Array Slot), va_P D vwCl wl H → va_D A wl → va_S A s.heap H locs → Same w wl k 14 → Blk wl k (cM D α k mTaped mErr mPpl mBts ((S_X12_lay_18 mUs mW mUn).2) mRa mSt mKi mWd mVal mLet mFin mNp mNb mOuts mWant mFnd mTape mNum mNam mFst mBnm (S_X12_lay_55 mPpl mNum mW p o b) ((S_X12_lay_18 mUs mW mUn).1) mSl mKp mnNum mnNam mnBo mnBn) → lv_has ls 5 [(4, .int (f_X12_would mPpl mNum mW p o b)), (0, .ref (α (k))), (1, .int p), (2, .int o), (3, .int b)] → W pg l en ({ frames := 4, cells := 0, slots := 0, locals := 90 } : Room) s mi ar below me co H locs 0 0 (MQ below (gQ D A (some (.int (f_X12_lay mPpl mUs mNum mW mUn p o b).1)) (fun w1 => Blk w1 k (cM D α k mTaped mErr mPpl mBts ((f_X12_lay mPpl mUs mNum mW mUn p o b).2.2.1) mRa mSt mKi mWd mVal mLet mFin mNp mNb mOuts mWant mFnd mTape mNum mNam mFst mBnm ((f_X12_lay mPpl mUs mNum mW mUn p o b).2.2.2) ((f_X12_lay mPpl mUs mNum mW mUn p o b).2.1) mSl mKp mnNum mnNam mnBo mnBn) ∧ Same w w1 k 14)) ar s 0 0 A) (F0 mi 77 ls [.int (J_X12_lay_69 p o), .int (f_X12_of (S_X12_lay_55 mPpl mNum mW p o b) p 4), .int 4, .int p, .ref (α (k))]) := by
      intro wl H locs ls hP hD hS hF hB0 hl
      refine lv_iadd S.1 S.2.1 dX12_lay_77 ?_
      refine g_aft0 (st1 := []) (g_V (As := [.int p, .int 4, .int ((f_X12_of (S_X12_lay_55 mPpl mNum mW p o b) p 4) + (J_X12_lay_69 p o))]) (rest := []) S mi_X12_sets qw1362 (c_X12_sets l D A wl α (k) mTaped mErr mPpl mBts ((S_X12_lay_18 mUs mW mUn).2) mRa mSt mKi mWd mVal mLet mFin mNp mNb mOuts mWant mFnd mTape mNum mNam mFst mBnm (S_X12_lay_55 mPpl mNum mW p o b) ((S_X12_lay_18 mUs mW mUn).1) mSl mKp mnNum mnNam mnBo mnBn p 4 ((f_X12_of (S_X12_lay_55 mPpl mNum mW p o b) p 4) + (J_X12_lay_69 p o)) hB0 (by first | assumption | exact vin_d (by decide) | exact vp_in_nI (by omega) (by decide) | decide | omega) (by first | assumption | exact vin_d (by decide) | exact vp_in_nI (by omega) (by decide) | decide | omega)) hK hP hD hE hS (hB0 0 _ rfl) rfl rfl rfl hl.1 (Nat.le_of_ble_eq_true rfl) rfl rfl ⟨(Nat.le_of_ble_eq_true rfl), (Nat.le_of_ble_eq_true rfl)⟩ ⟨(Nat.le_of_ble_eq_true rfl), (Nat.le_of_ble_eq_true rfl)⟩ dX12_lay_78) hS rfl (fun w6 H locs hQ hP hD hS => ?_)
      have hF := hF.trans hQ.2
      have hB0 : Blk w6 k (cM D α k mTaped mErr mPpl mBts ((S_X12_lay_18 mUs mW mUn).2) mRa mSt mKi mWd mVal mLet mFin mNp mNb mOuts mWant mFnd mTape mNum mNam mFst mBnm (S_X12_lay_78 mPpl mNum mW p o b) ((S_X12_lay_18 mUs mW mUn).1) mSl mKp mnNum mnNam mnBo mnBn) := hQ.1
      refine lv_aload_n S.1 S.2.1 dX12_lay_81 rfl (lv_at hl 1 rfl) ?_
      refine g_get (v := .ref (α (k + 6))) S hK hP (hB0 0 _ rfl) rfl inX12 9 (by decide) qw1383 rfl dX12_lay_82 ?_
      refine lv_bipush (v := 7) S.1 S.2.1 dX12_lay_85 (by decide) ?_
      refine lv_dup2_11 S.1 S.2.1 dX12_lay_87 rfl rfl ?_
      refine g_iald S hK hP (hB0 6 _ rfl) (by first | assumption | exact vin_d (by decide) | exact vp_in_nI (by omega) (by decide) | decide) dX12_lay_88 ?_
      refine lv_iconst (v := 1) S.1 S.2.1 dX12_lay_89 (by decide) ?_
      refine lv_iadd S.1 S.2.1 dX12_lay_90 ?_
      refine g_iast S hK hP hD hS (hB0 6 _ rfl) (by first | assumption | exact vin_d (by decide) | exact vp_in_nI (by omega) (by decide) | decide) dX12_lay_91 (fun w7 H locs hw hP hD hS => ?_)
      have hF := Same.set hF 6 hw (by decide)
      have hB0 : Blk w7 k (cM D α k mTaped mErr mPpl mBts ((S_X12_lay_18 mUs mW mUn).2) mRa mSt mKi mWd mVal mLet mFin mNp mNb mOuts mWant mFnd mTape mNum mNam mFst mBnm (upd (S_X12_lay_78 mPpl mNum mW p o b) 7 (((S_X12_lay_78 mPpl mNum mW p o b) 7) + 1)) ((S_X12_lay_18 mUs mW mUn).1) mSl mKp mnNum mnNam mnBo mnBn) := hB0.set 6 hw (Nat.le_of_ble_eq_true rfl) rfl
      refine lv_aload_n S.1 S.2.1 dX12_lay_92 rfl (lv_at hl 1 rfl) ?_
      refine lv_iconst (v := 3) S.1 S.2.1 dX12_lay_93 (by decide) ?_
      refine lv_iload_n S.1 S.2.1 dX12_lay_94 rfl (lv_at hl 3 rfl) ?_
      refine lv_iload_n S.1 S.2.1 dX12_lay_95 rfl (lv_at hl 4 rfl) ?_
      refine g_aft0 (st1 := []) (g_V (As := [.int 3, .int o, .int b]) (rest := []) S mi_X12_tells qw1591 (c_X12_tells l D A w7 α (k) mTaped mErr mPpl mBts ((S_X12_lay_18 mUs mW mUn).2) mRa mSt mKi mWd mVal mLet mFin mNp mNb mOuts mWant mFnd mTape mNum mNam mFst mBnm (upd (S_X12_lay_78 mPpl mNum mW p o b) 7 (((S_X12_lay_78 mPpl mNum mW p o b) 7) + 1)) ((S_X12_lay_18 mUs mW mUn).1) mSl mKp mnNum mnNam mnBo mnBn 3 o b hB0 (by exact (lg_upd (lg_sets (lg_sets (lg_sets (lg_sets (lg_sets hy2 hwo (vin_d (by decide))) hwo (vin_d (by decide))) hwo (vin_d (by decide))) hwo (vin_d (by decide))) hwp (vin_d (by decide))) (by decide)))) hK hP hD hE hS (hB0 0 _ rfl) rfl rfl rfl hl.1 (Nat.le_of_ble_eq_true rfl) rfl rfl ⟨(Nat.le_of_ble_eq_true rfl), (Nat.le_of_ble_eq_true rfl)⟩ ⟨(Nat.le_of_ble_eq_true rfl), (Nat.le_of_ble_eq_true rfl)⟩ dX12_lay_96) hS rfl (fun w8 H locs hQ hP hD hS => ?_)
      have hF := hF.trans hQ.2
      have hB0 : Blk w8 k (cM D α k mTaped mErr mPpl mBts ((S_X12_lay_18 mUs mW mUn).2) mRa mSt mKi mWd mVal mLet mFin mNp mNb mOuts mWant mFnd mTape mNum mNam mFst mBnm (S_X12_lay_96 mPpl mNum mW p o b) ((S_X12_lay_18 mUs mW mUn).1) mSl mKp mnNum mnNam mnBo mnBn) := hQ.1
      refine lv_aload_n S.1 S.2.1 dX12_lay_99 rfl (lv_at hl 1 rfl) ?_
      refine lv_iload_n S.1 S.2.1 dX12_lay_100 rfl (lv_at hl 4 rfl) ?_
      refine g_aftR0 (st1 := [.int (f_X12_setIn mPpl (S_X12_lay_96 mPpl mNum mW p o b) b)]) (g_V (As := [.int b]) (rest := []) S mi_X12_setIn qw1668 (c_X12_setIn l D A w8 α (k) mTaped mErr mPpl mBts ((S_X12_lay_18 mUs mW mUn).2) mRa mSt mKi mWd mVal mLet mFin mNp mNb mOuts mWant mFnd mTape mNum mNam mFst mBnm (S_X12_lay_96 mPpl mNum mW p o b) ((S_X12_lay_18 mUs mW mUn).1) mSl mKp mnNum mnNam mnBo mnBn b hB0 (by first | assumption | exact vin_d (by decide) | exact vp_in_nI (by omega) (by decide) | decide | omega)) hK hP hD hE hS (hB0 0 _ rfl) rfl rfl rfl hl.1 (Nat.le_of_ble_eq_true rfl) rfl rfl ⟨(Nat.le_of_ble_eq_true rfl), (Nat.le_of_ble_eq_true rfl)⟩ ⟨(Nat.le_of_ble_eq_true rfl), (Nat.le_of_ble_eq_true rfl)⟩ dX12_lay_101) hS rfl (fun locs hS => ?_)
      refine g_aftR0 (st1 := [.int (f_X12_ones (f_X12_setIn mPpl (S_X12_lay_96 mPpl mNum mW p o b) b))]) (g_St (As := [.int (f_X12_setIn mPpl (S_X12_lay_96 mPpl mNum mW p o b) b)]) (rest := []) S ms_X12_ones qw1645 (c_X12_ones l D A w8 α (f_X12_setIn mPpl (S_X12_lay_96 mPpl mNum mW p o b) b)) hK hP hD hE hS rfl rfl hl.1 (Nat.le_of_ble_eq_true rfl) rfl rfl ⟨(Nat.le_of_ble_eq_true rfl), (Nat.le_of_ble_eq_true rfl)⟩ ⟨(Nat.le_of_ble_eq_true rfl), (Nat.le_of_ble_eq_true rfl)⟩ dX12_lay_104) hS rfl (fun locs hS => ?_)
      have hf : (f_X12_lay mPpl mUs mNum mW mUn p o b) = ((f_X12_ones (f_X12_setIn mPpl (S_X12_lay_96 mPpl mNum mW p o b) b)), (S_X12_lay_18 mUs mW mUn).1, (S_X12_lay_18 mUs mW mUn).2, (S_X12_lay_96 mPpl mNum mW p o b)) := if_pos c1
      exact g_iret S hr hlk hP hD hS (by rw [hf] <;> rfl) (⟨by rw [hf]; exact hB0, hF⟩) dX12_lay_107
    refine lv_icmp_ne (tgt := 76) S.1 S.2.1 dX12_lay_69 (by decide) (fun (c2 : ¬ p = o) => ?_) (fun (c2 : p = o) => ?_)
    · refine lv_iconst (v := 1) S.1 S.2.1 dX12_lay_76 (by decide) ?_
      have hJ : (J_X12_lay_69 p o) = 1 := if_neg c2
      have qj := jn69
      rw [hJ] at qj
      exact qj _ _ _ _ hP hD hS hF hB0 (lv_sub hl [0, 1, 2, 3, 4] rfl)
    · refine lv_iconst (v := 0) S.1 S.2.1 dX12_lay_72 (by decide) ?_
      refine lv_goto (tgt := 77) S.1 S.2.1 dX12_lay_73 (by decide) ?_
      have hJ : (J_X12_lay_69 p o) = 0 := if_pos c2
      have qj := jn69
      rw [hJ] at qj
      exact qj _ _ _ _ hP hD hS hF hB0 (lv_sub hl [0, 1, 2, 3, 4] rfl)
  · refine lv_iload S.1 S.2.1 dX12_lay_14 (lv_at hl 0 rfl) ?_
    have hf : (f_X12_lay mPpl mUs mNum mW mUn p o b) = ((f_X12_would mPpl mNum mW p o b), mUn, mUs, mW) := if_neg c1
    exact g_iret S hr hlk hP hD hS (by rw [hf] <;> rfl) (⟨by rw [hf]; exact hB0, hF⟩) dX12_lay_16
