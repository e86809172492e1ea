
theorem isWord_fin {mKi mFin : Int32} {mWd x : Int64} (c : f_X12_isWord mKi mWd mFin x = true) : tb mFin = true := by
  unfold f_X12_isWord at c
  cases h : tb mFin
  · rw [h, cond_false] at c; cases c
  · rfl
theorem rd_0 {b : Int32} (h : vp_in b 801) : rd_ 0 b := by
  obtain ⟨e, h1⟩ := vin_nI h
  exact ⟨0, b.toNatClampNeg, rfl, e, Nat.zero_le _, by omega⟩
noncomputable def J_X12_number_11 (mKi : Int32) (mVal : Int32) (lo : Int32) (hi : Int32) : Bool := (if mKi = 3 then (bif (f_X12_in mVal.toInt64 lo.toInt64 hi.toInt64) then true else false) else false)
noncomputable def S_X12_number_31 (mTaped : Int32) (mErr : Int32) (mRa : Int32) (mSt : Int32) (mKi : Int32) (mWd : Int64) (mVal : Int32) (mLet : Int32) (mFin : Int32) (mTape : Nat → Int32) (lo : Int32) (hi : Int32) : Int32 × Int32 × Int32 × Int32 × Int32 × Int32 × Int32 × Int64 := (f_X12_takes mTaped mErr mRa mSt mKi mWd mVal mLet mFin mTape (J_X12_number_11 mKi mVal lo hi))
noncomputable def f_X12_number (mTaped : Int32) (mErr : Int32) (mRa : Int32) (mSt : Int32) (mKi : Int32) (mWd : Int64) (mVal : Int32) (mLet : Int32) (mFin : Int32) (mTape : Nat → Int32) (lo : Int32) (hi : Int32) : Int32 × Int32 × Int32 × Int32 × Int32 × Int32 × Int32 × Int32 × Int64 := (mVal, (S_X12_number_31 mTaped mErr mRa mSt mKi mWd mVal mLet mFin mTape lo hi).1, (S_X12_number_31 mTaped mErr mRa mSt mKi mWd mVal mLet mFin mTape lo hi).2.1, (S_X12_number_31 mTaped mErr mRa mSt mKi mWd mVal mLet mFin mTape lo hi).2.2.1, (S_X12_number_31 mTaped mErr mRa mSt mKi mWd mVal mLet mFin mTape lo hi).2.2.2.1, (S_X12_number_31 mTaped mErr mRa mSt mKi mWd mVal mLet mFin mTape lo hi).2.2.2.2.1, (S_X12_number_31 mTaped mErr mRa mSt mKi mWd mVal mLet mFin mTape lo hi).2.2.2.2.2.1, (S_X12_number_31 mTaped mErr mRa mSt mKi mWd mVal mLet mFin mTape lo hi).2.2.2.2.2.2.1, (S_X12_number_31 mTaped mErr mRa mSt mKi mWd mVal mLet mFin mTape lo hi).2.2.2.2.2.2.2)
set_option maxHeartbeats 4000000 in
set_option maxRecDepth 100000 in
theorem c_X12_number (l : Launch) (D : va_G) (A : Nat → Prop) (w : va_W) (α : Nat → Nat) (k : Nat) (mTaped : Int32) (mErr : Int32) (mPpl : Int32) (mBts : Int32) (mUs : Int32) (mRa : Int32) (mSt : Int32) (mKi : Int32) (mWd : Int64) (mVal : Int32) (mLet : Int32) (mFin : Int32) (mNp : Int32) (mNb : Int32) (mOuts : Int32) (mWant : Int32) (mFnd : Int32) (mTape : Nat → Int32) (mNum : Nat → Int32) (mNam : Nat → Int32) (mFst : Nat → Int32) (mBnm : Nat → Int32) (mW : Nat → Int32) (mUn : Nat → Int32) (mSl : Nat → Int32) (mKp : Nat → Int32) (mnNum : Nat → Int32) (mnNam : Nat → Int32) (mnBo : Nat → Int32) (mnBn : Nat → Int32) (lo : Int32) (hi : Int32) (hB0 : Blk w k (cM D α k mTaped mErr mPpl mBts mUs mRa mSt mKi mWd mVal mLet mFin mNp mNb mOuts mWant mFnd mTape mNum mNam mFst mBnm mW mUn mSl mKp mnNum mnNam mnBo mnBn)) (hy0 : rd_ mRa mTaped) : Met l yX12_number (ws_ yX12_number cX12_number 4 (some .int)) ({ frames := 4, cells := 0, slots := 0, locals := 85 }) (gPre D A [.ref (α (k)), .int lo, .int hi] w) (gQ D A (some (.int (f_X12_number mTaped mErr mRa mSt mKi mWd mVal mLet mFin mTape lo hi).1)) (fun w1 => Blk w1 k (cM D α k mTaped ((f_X12_number mTaped mErr mRa mSt mKi mWd mVal mLet mFin mTape lo hi).2.1) mPpl mBts mUs ((f_X12_number mTaped mErr mRa mSt mKi mWd mVal mLet mFin mTape lo hi).2.2.2.2.2.1) ((f_X12_number mTaped mErr mRa mSt mKi mWd mVal mLet mFin mTape lo hi).2.2.2.2.2.2.1) ((f_X12_number mTaped mErr mRa mSt mKi mWd mVal mLet mFin mTape lo hi).2.2.2.1) ((f_X12_number mTaped mErr mRa mSt mKi mWd mVal mLet mFin mTape lo hi).2.2.2.2.2.2.2.2) ((f_X12_number mTaped mErr mRa mSt mKi mWd mVal mLet mFin mTape lo hi).2.2.2.2.2.2.2.1) ((f_X12_number mTaped mErr mRa mSt mKi mWd mVal mLet mFin mTape lo hi).2.2.2.2.1) ((f_X12_number mTaped mErr mRa mSt mKi mWd mVal mLet mFin mTape lo hi).2.2.1) mNp mNb mOuts mWant mFnd mTape mNum mNam mFst mBnm mW mUn mSl mKp mnNum mnNam mnBo mnBn) ∧ Same w w1 k 14 ∧ (rd_ (f_X12_number mTaped mErr mRa mSt mKi mWd mVal mLet mFin mTape lo hi).2.2.2.2.2.1 mTaped) ∧ (tb (f_X12_number mTaped mErr mRa mSt mKi mWd mVal mLet mFin mTape lo hi).2.2.1 = true → tb mFin = true))) 0 0 A := by
  refine g_met [(0, .ref (α (k))), (1, .int lo), (2, .int hi)] (plainFor_of_name (by decide)) (Nat.le_of_ble_eq_true rfl) rfl (fun pg en s mi ar below me co ls S hK hP hD hE hS hr hlk hnm hl => ?_)
  have hF : Same w w k 14 := Same.rf
  refine lv_aload_n S.1 S.2.1 dX12_number_0 rfl (lv_at hl 0 rfl) ?_
  refine g_get (v := .int mVal) S hK hP (hB0 0 _ rfl) rfl inX12 18 (by decide) qw1392 rfl dX12_number_1 ?_
  refine lv_istore_n (lv' := [(3, .int mVal), (0, .ref (α (k))), (1, .int lo), (2, .int hi)]) S.1 S.2.1 dX12_number_4 rfl hl (by decide) rfl (fun ls hl => ?_)
  refine lv_aload_n S.1 S.2.1 dX12_number_5 rfl (lv_at hl 1 rfl) ?_
  refine lv_aload_n S.1 S.2.1 dX12_number_6 rfl (lv_at hl 1 rfl) ?_
  refine g_get (v := .int mKi) S hK hP (hB0 0 _ rfl) rfl inX12 16 (by decide) qw1390 rfl dX12_number_7 ?_
  refine lv_iconst (v := 3) S.1 S.2.1 dX12_number_10 (by decide) ?_
  have jn11 : ∀ (locs : List Loc) (ls : Array Slot), va_S A s.heap s.heap locs → lv_has ls 4 [(3, .int mVal), (0, .ref (α (k))), (1, .int lo), (2, .int hi)] → W pg l en ({ frames := 4, cells := 0, slots := 0, locals := 85 } : Room) s mi ar below me co s.heap locs 0 0 (MQ below (gQ D A (some (.int (f_X12_number mTaped mErr mRa mSt mKi mWd mVal mLet mFin mTape lo hi).1)) (fun w1 => Blk w1 k (cM D α k mTaped ((f_X12_number mTaped mErr mRa mSt mKi mWd mVal mLet mFin mTape lo hi).2.1) mPpl mBts mUs ((f_X12_number mTaped mErr mRa mSt mKi mWd mVal mLet mFin mTape lo hi).2.2.2.2.2.1) ((f_X12_number mTaped mErr mRa mSt mKi mWd mVal mLet mFin mTape lo hi).2.2.2.2.2.2.1) ((f_X12_number mTaped mErr mRa mSt mKi mWd mVal mLet mFin mTape lo hi).2.2.2.1) ((f_X12_number mTaped mErr mRa mSt mKi mWd mVal mLet mFin mTape lo hi).2.2.2.2.2.2.2.2) ((f_X12_number mTaped mErr mRa mSt mKi mWd mVal mLet mFin mTape lo hi).2.2.2.2.2.2.2.1) ((f_X12_number mTaped mErr mRa mSt mKi mWd mVal mLet mFin mTape lo hi).2.2.2.2.1) ((f_X12_number mTaped mErr mRa mSt mKi mWd mVal mLet mFin mTape lo hi).2.2.1) mNp mNb mOuts mWant mFnd mTape mNum mNam mFst mBnm mW mUn mSl mKp mnNum mnNam mnBo mnBn) ∧ Same w w1 k 14 ∧ (rd_ (f_X12_number mTaped mErr mRa mSt mKi mWd mVal mLet mFin mTape lo hi).2.2.2.2.2.1 mTaped) ∧ (tb (f_X12_number mTaped mErr mRa mSt mKi mWd mVal mLet mFin mTape lo hi).2.2.1 = true → tb mFin = true))) ar s 0 0 A) (F0 mi 31 ls [.int (b2i (J_X12_number_11 mKi mVal lo hi)), .ref (α (k))]) := by
    intro locs ls hS hl
    have hNm : (f_X12_takes mTaped mErr mRa mSt mKi mWd mVal mLet mFin mTape (J_X12_number_11 mKi mVal lo hi)) = (S_X12_number_31 mTaped mErr mRa mSt mKi mWd mVal mLet mFin mTape lo hi) := rfl
    have hCon := (c_X12_takes l D A w α (k) mTaped mErr mPpl mBts mUs mRa mSt mKi mWd mVal mLet mFin mNp mNb mOuts mWant mFnd mTape mNum mNam mFst mBnm mW mUn mSl mKp mnNum mnNam mnBo mnBn (J_X12_number_11 mKi mVal lo hi) hB0 (by first | assumption | exact vin_d (by decide) | exact vp_in_nI (by omega) (by decide) | decide | omega))
    rw [hNm] at hCon
    refine g_aft0 (st1 := []) (g_V (As := [.int (b2i (J_X12_number_11 mKi mVal lo hi))]) (rest := []) S mi_X12_takes qw1530 hCon hK hP hD hE hS (hB0 0 _ rfl) rfl rfl rfl hl.1 (Nat.le_of_ble_eq_true rfl) rfl rfl ⟨(Nat.le_of_ble_eq_true rfl), (Nat.le_of_ble_eq_true rfl)⟩ ⟨(Nat.le_of_ble_eq_true rfl), (Nat.le_of_ble_eq_true rfl)⟩ dX12_number_31) hS rfl (fun w1 H locs hQ hP hD hS => ?_)
    have hF := hF.trans hQ.2.1
    have hB0 : Blk w1 k (cM D α k mTaped ((S_X12_number_31 mTaped mErr mRa mSt mKi mWd mVal mLet mFin mTape lo hi).1) mPpl mBts mUs ((S_X12_number_31 mTaped mErr mRa mSt mKi mWd mVal mLet mFin mTape lo hi).2.2.2.2.1) ((S_X12_number_31 mTaped mErr mRa mSt mKi mWd mVal mLet mFin mTape lo hi).2.2.2.2.2.1) ((S_X12_number_31 mTaped mErr mRa mSt mKi mWd mVal mLet mFin mTape lo hi).2.2.1) ((S_X12_number_31 mTaped mErr mRa mSt mKi mWd mVal mLet mFin mTape lo hi).2.2.2.2.2.2.2) ((S_X12_number_31 mTaped mErr mRa mSt mKi mWd mVal mLet mFin mTape lo hi).2.2.2.2.2.2.1) ((S_X12_number_31 mTaped mErr mRa mSt mKi mWd mVal mLet mFin mTape lo hi).2.2.2.1) ((S_X12_number_31 mTaped mErr mRa mSt mKi mWd mVal mLet mFin mTape lo hi).2.1) mNp mNb mOuts mWant mFnd mTape mNum mNam mFst mBnm mW mUn mSl mKp mnNum mnNam mnBo mnBn) := hQ.1
    have hp1_0 : rd_ (S_X12_number_31 mTaped mErr mRa mSt mKi mWd mVal mLet mFin mTape lo hi).2.2.2.2.1 mTaped := hQ.2.2.1
    have hp1_1 : tb (S_X12_number_31 mTaped mErr mRa mSt mKi mWd mVal mLet mFin mTape lo hi).2.1 = true → (J_X12_number_11 mKi mVal lo hi) = true ∧ tb mFin = true := hQ.2.2.2
    refine lv_iload_n S.1 S.2.1 dX12_number_34 rfl (lv_at hl 0 rfl) ?_
    have hf : (f_X12_number mTaped mErr mRa mSt mKi mWd mVal mLet mFin mTape lo hi) = (mVal, (S_X12_number_31 mTaped mErr mRa mSt mKi mWd mVal mLet mFin mTape lo hi).1, (S_X12_number_31 mTaped mErr mRa mSt mKi mWd mVal mLet mFin mTape lo hi).2.1, (S_X12_number_31 mTaped mErr mRa mSt mKi mWd mVal mLet mFin mTape lo hi).2.2.1, (S_X12_number_31 mTaped mErr mRa mSt mKi mWd mVal mLet mFin mTape lo hi).2.2.2.1, (S_X12_number_31 mTaped mErr mRa mSt mKi mWd mVal mLet mFin mTape lo hi).2.2.2.2.1, (S_X12_number_31 mTaped mErr mRa mSt mKi mWd mVal mLet mFin mTape lo hi).2.2.2.2.2.1, (S_X12_number_31 mTaped mErr mRa mSt mKi mWd mVal mLet mFin mTape lo hi).2.2.2.2.2.2.1, (S_X12_number_31 mTaped mErr mRa mSt mKi mWd mVal mLet mFin mTape lo hi).2.2.2.2.2.2.2) := rfl
    exact g_iret S hr hlk hP hD hS (by rw [hf] <;> rfl) (⟨by rw [hf]; dsimp only; exact hB0, hF, by rw [hf]; (try dsimp only); assumption, by rw [hf]; (try dsimp only); exact fun h => (hp1_1 h).2⟩) dX12_number_35
  refine lv_icmp_ne (tgt := 30) S.1 S.2.1 dX12_number_11 (by decide) (fun (c1 : ¬ mKi = 3) => ?_) (fun (c1 : mKi = 3) => ?_)
  · refine lv_iconst (v := 0) S.1 S.2.1 dX12_number_30 (by decide) ?_
    have hJ : (J_X12_number_11 mKi mVal lo hi) = false := if_neg c1
    have qj := jn11
    rw [hJ] at qj
    exact qj _ _ hS (lv_sub hl [0, 1, 2, 3] rfl)
  · refine lv_iload_n S.1 S.2.1 dX12_number_14 rfl (lv_at hl 0 rfl) ?_
    refine lv_i2l (v := mVal.toInt64) S.1 S.2.1 dX12_number_15 rfl ?_
    refine lv_iload_n S.1 S.2.1 dX12_number_16 rfl (lv_at hl 2 rfl) ?_
    refine lv_i2l (v := lo.toInt64) S.1 S.2.1 dX12_number_17 rfl ?_
    refine lv_iload_n S.1 S.2.1 dX12_number_18 rfl (lv_at hl 3 rfl) ?_
    refine lv_i2l (v := hi.toInt64) S.1 S.2.1 dX12_number_19 rfl ?_
    refine g_aftR0 (st1 := [.int (b2i (f_X12_in mVal.toInt64 lo.toInt64 hi.toInt64)), .ref (α (k))]) (g_St (As := [.long mVal.toInt64, .long lo.toInt64, .long hi.toInt64]) (rest := [.ref (α (k))]) S ms_X12_in qw1477 (c_X12_in l D A w α mVal.toInt64 lo.toInt64 hi.toInt64) hK hP hD hE hS rfl rfl hl.1 (Nat.le_of_ble_eq_true rfl) rfl rfl ⟨(Nat.le_of_ble_eq_true rfl), (Nat.le_of_ble_eq_true rfl)⟩ ⟨(Nat.le_of_ble_eq_true rfl), (Nat.le_of_ble_eq_true rfl)⟩ dX12_number_20) hS rfl (fun locs hS => ?_)
    refine g_bifeq (b := (f_X12_in mVal.toInt64 lo.toInt64 hi.toInt64)) (tgt := 30) S dX12_number_23 (by decide) (fun (c2 : (f_X12_in mVal.toInt64 lo.toInt64 hi.toInt64) = false) => ?_) (fun (c2 : (f_X12_in mVal.toInt64 lo.toInt64 hi.toInt64) = true) => ?_)
    · refine lv_iconst (v := 0) S.1 S.2.1 dX12_number_30 (by decide) ?_
      have hJ : (J_X12_number_11 mKi mVal lo hi) = false := (if_pos c1).trans (cd_f c2)
      have qj := jn11
      rw [hJ] at qj
      exact qj _ _ hS (lv_sub hl [0, 1, 2, 3] rfl)
    · refine lv_iconst (v := 1) S.1 S.2.1 dX12_number_26 (by decide) ?_
      refine lv_goto (tgt := 31) S.1 S.2.1 dX12_number_27 (by decide) ?_
      have hJ : (J_X12_number_11 mKi mVal lo hi) = true := (if_pos c1).trans (cd_t c2)
      have qj := jn11
      rw [hJ] at qj
      exact qj _ _ hS (lv_sub hl [0, 1, 2, 3] rfl)
