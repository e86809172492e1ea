noncomputable def S_X12_append_17 (mTaped : Int32) (mTape : Nat → Int32) (a : Int32) : (Nat → Int32) × Int32 := (f_X12_feeds mTaped mTape a)
noncomputable def S_X12_append_22 (mTaped : Int32) (mTape : Nat → Int32) (a : Int32) (b : Int32) : (Nat → Int32) × Int32 := (f_X12_feeds ((S_X12_append_17 mTaped mTape a).2) ((S_X12_append_17 mTaped mTape a).1) b)
noncomputable def S_X12_append_27 (mTaped : Int32) (mTape : Nat → Int32) (a : Int32) (b : Int32) (c : Int32) : (Nat → Int32) × Int32 := (f_X12_feeds ((S_X12_append_22 mTaped mTape a b).2) ((S_X12_append_22 mTaped mTape a b).1) c)
noncomputable def S_X12_append_33 (mTaped : Int32) (mTape : Nat → Int32) (a : Int32) (b : Int32) (c : Int32) (d : Int32) : (Nat → Int32) × Int32 := (f_X12_feeds ((S_X12_append_27 mTaped mTape a b c).2) ((S_X12_append_27 mTaped mTape a b c).1) d)
noncomputable def S_X12_append_39 (mTaped : Int32) (mTape : Nat → Int32) (a : Int32) (b : Int32) (c : Int32) (d : Int32) (e : Int32) : (Nat → Int32) × Int32 := (f_X12_feeds ((S_X12_append_33 mTaped mTape a b c d).2) ((S_X12_append_33 mTaped mTape a b c d).1) e)
noncomputable def f_X12_append (mTaped : Int32) (mTape : Nat → Int32) (a : Int32) (b : Int32) (c : Int32) (d : Int32) (e : Int32) : Int32 × (Nat → Int32) × Int32 := (if (mTaped + 20) ≤ 800 then ((S_X12_append_39 mTaped mTape a b c d e).2, (S_X12_append_39 mTaped mTape a b c d e).1, (S_X12_append_39 mTaped mTape a b c d e).2) else ((-1), mTape, mTaped))
theorem ap_0 {t : Int32} (h : vp_in t 801) (c : t + 20 ≤ 800) : vp_in t 781 := by
  obtain ⟨e, h1⟩ := vin_nI h
  rw [e, show (20 : Int32) = nI 20 from rfl, nI_add, show (800 : Int32) = nI 800 from rfl, nI_leI (by omega) (by decide)] at c
  rw [e]
  exact vp_in_nI (by omega) (by decide)
theorem ap_s {t t2 : Int32} {n : Nat} (h : vp_in t n) (e2 : t2 = t + 4) (hn : n < 1000 := by decide) : vp_in t2 (n + 4) := by
  obtain ⟨e, h1⟩ := vin_nI h
  rw [e2, e, show (4 : Int32) = nI 4 from rfl, nI_add]
  exact vp_in_nI (by omega) (by omega)
theorem ap_1 {t t2 : Int32} (h : vp_in t 801) (c : t + 20 ≤ 800) (e2 : t2 = t + 4) : vp_in t2 785 := ap_s (ap_0 h c) e2
set_option maxHeartbeats 4000000 in
set_option maxRecDepth 100000 in
theorem c_X12_append (l : Launch) (D : va_G) (A : Nat → Prop) (w : va_W) (α : Nat → Nat) (k : Nat) (mTaped : Int32) (mErr : Int32) (mPpl : Int32) (mBts : Int32) (mUs : Int32) (mRa : Int32) (mSt : Int32) (mKi : Int32) (mWd : Int64) (mVal : Int32) (mLet : Int32) (mFin : Int32) (mNp : Int32) (mNb : Int32) (mOuts : Int32) (mWant : Int32) (mFnd : Int32) (mTape : Nat → Int32) (mNum : Nat → Int32) (mNam : Nat → Int32) (mFst : Nat → Int32) (mBnm : Nat → Int32) (mW : Nat → Int32) (mUn : Nat → Int32) (mSl : Nat → Int32) (mKp : Nat → Int32) (mnNum : Nat → Int32) (mnNam : Nat → Int32) (mnBo : Nat → Int32) (mnBn : Nat → Int32) (a : Int32) (b : Int32) (c : Int32) (d : Int32) (e : Int32) (hB0 : Blk w k (cM D α k mTaped mErr mPpl mBts mUs mRa mSt mKi mWd mVal mLet mFin mNp mNb mOuts mWant mFnd mTape mNum mNam mFst mBnm mW mUn mSl mKp mnNum mnNam mnBo mnBn)) (hy0 : vp_in mTaped 801) : Met l yX12_append (ws_ yX12_append cX12_append 6 (some .int)) ({ frames := 1, cells := 0, slots := 0, locals := 22 }) (gPre D A [.ref (α (k)), .int a, .int b, .int c, .int d, .int e] w) (gQ D A (some (.int (f_X12_append mTaped mTape a b c d e).1)) (fun w1 => Blk w1 k (cM D α k ((f_X12_append mTaped mTape a b c d e).2.2) mErr mPpl mBts mUs mRa mSt mKi mWd mVal mLet mFin mNp mNb mOuts mWant mFnd ((f_X12_append mTaped mTape a b c d e).2.1) mNum mNam mFst mBnm mW mUn mSl mKp mnNum mnNam mnBo mnBn) ∧ Same w w1 k 14)) 0 0 A := by
  refine g_met [(0, .ref (α (k))), (1, .int a), (2, .int b), (3, .int c), (4, .int d), (5, .int e)] (plainFor_of_name (by decide)) (Nat.le_of_ble_eq_true rfl) rfl (fun pg en s mi ar below me co ls S hK hP hD hE hS hr hlk hnm hl => ?_)
  have hF : Same w w k 14 := Same.rf
  refine lv_aload_n S.1 S.2.1 dX12_append_0 rfl (lv_at hl 0 rfl) ?_
  refine g_get (v := .int mTaped) S hK hP (hB0 0 _ rfl) rfl inX12 1 (by decide) qw1375 rfl dX12_append_1 ?_
  refine lv_bipush (v := 20) S.1 S.2.1 dX12_append_4 (by decide) ?_
  refine lv_iadd S.1 S.2.1 dX12_append_6 ?_
  refine lv_sipush (v := 800) S.1 S.2.1 dX12_append_7 (by decide) ?_
  refine lv_icmp_le (tgt := 15) S.1 S.2.1 dX12_append_10 (by decide) (fun (c1 : (mTaped + 20) ≤ 800) => ?_) (fun (c1 : ¬ (mTaped + 20) ≤ 800) => ?_)
  · refine lv_aload_n S.1 S.2.1 dX12_append_15 rfl (lv_at hl 0 rfl) ?_
    refine lv_iload_n S.1 S.2.1 dX12_append_16 rfl (lv_at hl 1 rfl) ?_
    have hNm : (f_X12_feeds mTaped mTape a) = (S_X12_append_17 mTaped mTape a) := rfl
    have hCon := (c_X12_feeds l D A w α (k) mTaped mErr mPpl mBts mUs mRa mSt mKi mWd mVal mLet mFin mNp mNb mOuts mWant mFnd mTape mNum mNam mFst mBnm mW mUn mSl mKp mnNum mnNam mnBo mnBn a hB0 (by exact vin_w (ap_0 hy0 c1) (by decide)))
    rw [hNm] at hCon
    refine g_aft0 (st1 := []) (g_V (As := [.int a]) (rest := []) S mi_X12_feeds qw1469 hCon hK hP hD hE hS (hB0 0 _ rfl) rfl rfl rfl hl.1 (Nat.le_of_ble_eq_true rfl) rfl rfl ⟨(Nat.le_of_ble_eq_true rfl), (Nat.le_of_ble_eq_true rfl)⟩ ⟨(Nat.le_of_ble_eq_true rfl), (Nat.le_of_ble_eq_true rfl)⟩ dX12_append_17) hS rfl (fun w1 H locs hQ hP hD hS => ?_)
    have hF := hF.trans hQ.2.1
    have hB0 : Blk w1 k (cM D α k ((S_X12_append_17 mTaped mTape a).2) mErr mPpl mBts mUs mRa mSt mKi mWd mVal mLet mFin mNp mNb mOuts mWant mFnd ((S_X12_append_17 mTaped mTape a).1) mNum mNam mFst mBnm mW mUn mSl mKp mnNum mnNam mnBo mnBn) := hQ.1
    have hp1_0 : (S_X12_append_17 mTaped mTape a).2 = mTaped + 4 := hQ.2.2
    refine lv_aload_n S.1 S.2.1 dX12_append_20 rfl (lv_at hl 0 rfl) ?_
    refine lv_iload_n S.1 S.2.1 dX12_append_21 rfl (lv_at hl 2 rfl) ?_
    have hNm : (f_X12_feeds ((S_X12_append_17 mTaped mTape a).2) ((S_X12_append_17 mTaped mTape a).1) b) = (S_X12_append_22 mTaped mTape a b) := rfl
    have hCon := (c_X12_feeds l D A w1 α (k) ((S_X12_append_17 mTaped mTape a).2) mErr mPpl mBts mUs mRa mSt mKi mWd mVal mLet mFin mNp mNb mOuts mWant mFnd ((S_X12_append_17 mTaped mTape a).1) mNum mNam mFst mBnm mW mUn mSl mKp mnNum mnNam mnBo mnBn b hB0 (by exact vin_w (ap_1 hy0 c1 hp1_0) (by decide)))
    rw [hNm] at hCon
    refine g_aft0 (st1 := []) (g_V (As := [.int b]) (rest := []) S mi_X12_feeds qw1469 hCon hK hP hD hE hS (hB0 0 _ rfl) rfl rfl rfl hl.1 (Nat.le_of_ble_eq_true rfl) rfl rfl ⟨(Nat.le_of_ble_eq_true rfl), (Nat.le_of_ble_eq_true rfl)⟩ ⟨(Nat.le_of_ble_eq_true rfl), (Nat.le_of_ble_eq_true rfl)⟩ dX12_append_22) hS rfl (fun w2 H locs hQ hP hD hS => ?_)
    have hF := hF.trans hQ.2.1
    have hB0 : Blk w2 k (cM D α k ((S_X12_append_22 mTaped mTape a b).2) mErr mPpl mBts mUs mRa mSt mKi mWd mVal mLet mFin mNp mNb mOuts mWant mFnd ((S_X12_append_22 mTaped mTape a b).1) mNum mNam mFst mBnm mW mUn mSl mKp mnNum mnNam mnBo mnBn) := hQ.1
    have hp2_0 : (S_X12_append_22 mTaped mTape a b).2 = ((S_X12_append_17 mTaped mTape a).2) + 4 := hQ.2.2
    refine lv_aload_n S.1 S.2.1 dX12_append_25 rfl (lv_at hl 0 rfl) ?_
    refine lv_iload_n S.1 S.2.1 dX12_append_26 rfl (lv_at hl 3 rfl) ?_
    have hNm : (f_X12_feeds ((S_X12_append_22 mTaped mTape a b).2) ((S_X12_append_22 mTaped mTape a b).1) c) = (S_X12_append_27 mTaped mTape a b c) := rfl
    have hCon := (c_X12_feeds l D A w2 α (k) ((S_X12_append_22 mTaped mTape a b).2) mErr mPpl mBts mUs mRa mSt mKi mWd mVal mLet mFin mNp mNb mOuts mWant mFnd ((S_X12_append_22 mTaped mTape a b).1) mNum mNam mFst mBnm mW mUn mSl mKp mnNum mnNam mnBo mnBn c hB0 (by exact vin_w (ap_s (ap_1 hy0 c1 hp1_0) hp2_0) (by decide)))
    rw [hNm] at hCon
    refine g_aft0 (st1 := []) (g_V (As := [.int c]) (rest := []) S mi_X12_feeds qw1469 hCon hK hP hD hE hS (hB0 0 _ rfl) rfl rfl rfl hl.1 (Nat.le_of_ble_eq_true rfl) rfl rfl ⟨(Nat.le_of_ble_eq_true rfl), (Nat.le_of_ble_eq_true rfl)⟩ ⟨(Nat.le_of_ble_eq_true rfl), (Nat.le_of_ble_eq_true rfl)⟩ dX12_append_27) hS rfl (fun w3 H locs hQ hP hD hS => ?_)
    have hF := hF.trans hQ.2.1
    have hB0 : Blk w3 k (cM D α k ((S_X12_append_27 mTaped mTape a b c).2) mErr mPpl mBts mUs mRa mSt mKi mWd mVal mLet mFin mNp mNb mOuts mWant mFnd ((S_X12_append_27 mTaped mTape a b c).1) mNum mNam mFst mBnm mW mUn mSl mKp mnNum mnNam mnBo mnBn) := hQ.1
    have hp3_0 : (S_X12_append_27 mTaped mTape a b c).2 = ((S_X12_append_22 mTaped mTape a b).2) + 4 := hQ.2.2
    refine lv_aload_n S.1 S.2.1 dX12_append_30 rfl (lv_at hl 0 rfl) ?_
    refine lv_iload S.1 S.2.1 dX12_append_31 (lv_at hl 4 rfl) ?_
    have hNm : (f_X12_feeds ((S_X12_append_27 mTaped mTape a b c).2) ((S_X12_append_27 mTaped mTape a b c).1) d) = (S_X12_append_33 mTaped mTape a b c d) := rfl
    have hCon := (c_X12_feeds l D A w3 α (k) ((S_X12_append_27 mTaped mTape a b c).2) mErr mPpl mBts mUs mRa mSt mKi mWd mVal mLet mFin mNp mNb mOuts mWant mFnd ((S_X12_append_27 mTaped mTape a b c).1) mNum mNam mFst mBnm mW mUn mSl mKp mnNum mnNam mnBo mnBn d hB0 (by exact vin_w (ap_s (ap_s (ap_1 hy0 c1 hp1_0) hp2_0) hp3_0) (by decide)))
    rw [hNm] at hCon
    refine g_aft0 (st1 := []) (g_V (As := [.int d]) (rest := []) S mi_X12_feeds qw1469 hCon hK hP hD hE hS (hB0 0 _ rfl) rfl rfl rfl hl.1 (Nat.le_of_ble_eq_true rfl) rfl rfl ⟨(Nat.le_of_ble_eq_true rfl), (Nat.le_of_ble_eq_true rfl)⟩ ⟨(Nat.le_of_ble_eq_true rfl), (Nat.le_of_ble_eq_true rfl)⟩ dX12_append_33) hS rfl (fun w4 H locs hQ hP hD hS => ?_)
    have hF := hF.trans hQ.2.1
    have hB0 : Blk w4 k (cM D α k ((S_X12_append_33 mTaped mTape a b c d).2) mErr mPpl mBts mUs mRa mSt mKi mWd mVal mLet mFin mNp mNb mOuts mWant mFnd ((S_X12_append_33 mTaped mTape a b c d).1) mNum mNam mFst mBnm mW mUn mSl mKp mnNum mnNam mnBo mnBn) := hQ.1
    have hp4_0 : (S_X12_append_33 mTaped mTape a b c d).2 = ((S_X12_append_27 mTaped mTape a b c).2) + 4 := hQ.2.2
    refine lv_aload_n S.1 S.2.1 dX12_append_36 rfl (lv_at hl 0 rfl) ?_
    refine lv_iload S.1 S.2.1 dX12_append_37 (lv_at hl 5 rfl) ?_
    have hNm : (f_X12_feeds ((S_X12_append_33 mTaped mTape a b c d).2) ((S_X12_append_33 mTaped mTape a b c d).1) e) = (S_X12_append_39 mTaped mTape a b c d e) := rfl
    have hCon := (c_X12_feeds l D A w4 α (k) ((S_X12_append_33 mTaped mTape a b c d).2) mErr mPpl mBts mUs mRa mSt mKi mWd mVal mLet mFin mNp mNb mOuts mWant mFnd ((S_X12_append_33 mTaped mTape a b c d).1) mNum mNam mFst mBnm mW mUn mSl mKp mnNum mnNam mnBo mnBn e hB0 (by exact ap_s (ap_s (ap_s (ap_1 hy0 c1 hp1_0) hp2_0) hp3_0) hp4_0))
    rw [hNm] at hCon
    refine g_aft0 (st1 := []) (g_V (As := [.int e]) (rest := []) S mi_X12_feeds qw1469 hCon hK hP hD hE hS (hB0 0 _ rfl) rfl rfl rfl hl.1 (Nat.le_of_ble_eq_true rfl) rfl rfl ⟨(Nat.le_of_ble_eq_true rfl), (Nat.le_of_ble_eq_true rfl)⟩ ⟨(Nat.le_of_ble_eq_true rfl), (Nat.le_of_ble_eq_true rfl)⟩ dX12_append_39) hS rfl (fun w5 H locs hQ hP hD hS => ?_)
    have hF := hF.trans hQ.2.1
    have hB0 : Blk w5 k (cM D α k ((S_X12_append_39 mTaped mTape a b c d e).2) mErr mPpl mBts mUs mRa mSt mKi mWd mVal mLet mFin mNp mNb mOuts mWant mFnd ((S_X12_append_39 mTaped mTape a b c d e).1) mNum mNam mFst mBnm mW mUn mSl mKp mnNum mnNam mnBo mnBn) := hQ.1
    have hp5_0 : (S_X12_append_39 mTaped mTape a b c d e).2 = ((S_X12_append_33 mTaped mTape a b c d).2) + 4 := hQ.2.2
    refine lv_aload_n S.1 S.2.1 dX12_append_42 rfl (lv_at hl 0 rfl) ?_
    refine g_get (v := .int ((S_X12_append_39 mTaped mTape a b c d e).2)) S hK hP (hB0 0 _ rfl) rfl inX12 1 (by decide) qw1375 rfl dX12_append_43 ?_
    have hf : (f_X12_append mTaped mTape a b c d e) = ((S_X12_append_39 mTaped mTape a b c d e).2, (S_X12_append_39 mTaped mTape a b c d e).1, (S_X12_append_39 mTaped mTape a b c d e).2) := if_pos c1
    exact g_iret S hr hlk hP hD hS (by rw [hf] <;> rfl) (⟨by rw [hf]; dsimp only; exact hB0, hF⟩) dX12_append_46
  · refine lv_iconst (v := (-1)) S.1 S.2.1 dX12_append_13 (by decide) ?_
    have hf : (f_X12_append mTaped mTape a b c d e) = ((-1), mTape, mTaped) := if_neg c1
    exact g_iret S hr hlk hP hD hS (by rw [hf] <;> rfl) (⟨by rw [hf]; dsimp only; exact hB0, hF⟩) dX12_append_14
