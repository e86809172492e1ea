noncomputable def S_X12_saysPerson_15 (mOuts : Int32) (mWant : Int32) (mFnd : Int32) (mNam : Nat → Int32) (p : Int32) : Int32 × Int32 := (f_X12_saysWord mOuts mWant mFnd ((mNam p.toNatClampNeg).toInt64))
noncomputable def S_X12_saysPerson_21 (mOuts : Int32) (mWant : Int32) (mFnd : Int32) (mNam : Nat → Int32) (p : Int32) : Int32 × Int32 := (f_X12_says ((S_X12_saysPerson_15 mOuts mWant mFnd mNam p).2) mWant ((S_X12_saysPerson_15 mOuts mWant mFnd mNam p).1) 32)
noncomputable def J_X12_saysPerson_26 (mW : Nat → Int32) (p : Int32) : Int64 := (if (f_X12_of mW p 5) = 0 then 263620 else (if (f_X12_of mW p 5) = 1 then 763528 else (if (f_X12_of mW p 5) = 2 then 394532 else 659117163)))
noncomputable def S_X12_saysPerson_60 (mOuts : Int32) (mWant : Int32) (mFnd : Int32) (mNam : Nat → Int32) (mW : Nat → Int32) (p : Int32) : Int32 × Int32 := (f_X12_saysWord ((S_X12_saysPerson_21 mOuts mWant mFnd mNam p).2) mWant ((S_X12_saysPerson_21 mOuts mWant mFnd mNam p).1) (J_X12_saysPerson_26 mW p))
noncomputable def S_X12_saysPerson_76 (mOuts : Int32) (mWant : Int32) (mFnd : Int32) (mNam : Nat → Int32) (mW : Nat → Int32) (p : Int32) : Int32 × Int32 := (f_X12_says ((S_X12_saysPerson_60 mOuts mWant mFnd mNam mW p).2) mWant ((S_X12_saysPerson_60 mOuts mWant mFnd mNam mW p).1) 32)
noncomputable def S_X12_saysPerson_93 (mOuts : Int32) (mWant : Int32) (mFnd : Int32) (mNam : Nat → Int32) (mW : Nat → Int32) (p : Int32) : Int32 × Int32 := (f_X12_saysWord ((S_X12_saysPerson_76 mOuts mWant mFnd mNam mW p).2) mWant ((S_X12_saysPerson_76 mOuts mWant mFnd mNam mW p).1) ((mNam (f_X12_of mW p 6).toNatClampNeg).toInt64))
noncomputable def J_X12_saysPerson_70 (mOuts : Int32) (mWant : Int32) (mFnd : Int32) (mNam : Nat → Int32) (mW : Nat → Int32) (p : Int32) : Int32 × Int32 := (if (f_X12_of mW p 6) < 0 then ((S_X12_saysPerson_60 mOuts mWant mFnd mNam mW p).1, (S_X12_saysPerson_60 mOuts mWant mFnd mNam mW p).2) else ((S_X12_saysPerson_93 mOuts mWant mFnd mNam mW p).1, (S_X12_saysPerson_93 mOuts mWant mFnd mNam mW p).2))
noncomputable def S_X12_saysPerson_107 (mOuts : Int32) (mWant : Int32) (mFnd : Int32) (mNam : Nat → Int32) (mW : Nat → Int32) (p : Int32) : Int32 × Int32 := (f_X12_says ((J_X12_saysPerson_70 mOuts mWant mFnd mNam mW p).2) mWant ((J_X12_saysPerson_70 mOuts mWant mFnd mNam mW p).1) 32)
noncomputable def S_X12_saysPerson_118 (mOuts : Int32) (mWant : Int32) (mFnd : Int32) (mNam : Nat → Int32) (mW : Nat → Int32) (p : Int32) : Int32 × Int32 := (f_X12_saysNumber ((S_X12_saysPerson_107 mOuts mWant mFnd mNam mW p).2) mWant ((S_X12_saysPerson_107 mOuts mWant mFnd mNam mW p).1) (f_X12_of mW p 8))
noncomputable def J_X12_saysPerson_101 (mOuts : Int32) (mWant : Int32) (mFnd : Int32) (mNam : Nat → Int32) (mW : Nat → Int32) (p : Int32) : Int32 × Int32 := (bif (f_X12_isLaid mW p) then ((S_X12_saysPerson_118 mOuts mWant mFnd mNam mW p).1, (S_X12_saysPerson_118 mOuts mWant mFnd mNam mW p).2) else ((J_X12_saysPerson_70 mOuts mWant mFnd mNam mW p).1, (J_X12_saysPerson_70 mOuts mWant mFnd mNam mW p).2))
noncomputable def S_X12_saysPerson_132 (mOuts : Int32) (mWant : Int32) (mFnd : Int32) (mNam : Nat → Int32) (mW : Nat → Int32) (p : Int32) : Int32 × Int32 := (f_X12_says ((J_X12_saysPerson_101 mOuts mWant mFnd mNam mW p).2) mWant ((J_X12_saysPerson_101 mOuts mWant mFnd mNam mW p).1) 32)
noncomputable def S_X12_saysPerson_138 (mOuts : Int32) (mWant : Int32) (mFnd : Int32) (mNam : Nat → Int32) (mW : Nat → Int32) (p : Int32) : Int32 × Int32 := (f_X12_says ((S_X12_saysPerson_132 mOuts mWant mFnd mNam mW p).2) mWant ((S_X12_saysPerson_132 mOuts mWant mFnd mNam mW p).1) 42)
noncomputable def J_X12_saysPerson_126 (mOuts : Int32) (mWant : Int32) (mFnd : Int32) (mNam : Nat → Int32) (mW : Nat → Int32) (p : Int32) : Int32 × Int32 := (bif (f_X12_isAtSea mW p) then ((S_X12_saysPerson_138 mOuts mWant mFnd mNam mW p).1, (S_X12_saysPerson_138 mOuts mWant mFnd mNam mW p).2) else ((J_X12_saysPerson_101 mOuts mWant mFnd mNam mW p).1, (J_X12_saysPerson_101 mOuts mWant mFnd mNam mW p).2))
noncomputable def S_X12_saysPerson_144 (mOuts : Int32) (mWant : Int32) (mFnd : Int32) (mNam : Nat → Int32) (mW : Nat → Int32) (p : Int32) : Int32 × Int32 := (f_X12_says ((J_X12_saysPerson_126 mOuts mWant mFnd mNam mW p).2) mWant ((J_X12_saysPerson_126 mOuts mWant mFnd mNam mW p).1) 10)
noncomputable def f_X12_saysPerson (mOuts : Int32) (mWant : Int32) (mFnd : Int32) (mNam : Nat → Int32) (mW : Nat → Int32) (p : Int32) : Int32 × Int32 := ((S_X12_saysPerson_144 mOuts mWant mFnd mNam mW p).1, (S_X12_saysPerson_144 mOuts mWant mFnd mNam mW p).2)
set_option maxHeartbeats 4000000 in
set_option maxRecDepth 100000 in
theorem c_X12_saysPerson (l : Launch) (D : va_G) (A : Nat → Prop) (w : va_W) (α : Nat → Nat) (k : Nat) (mTaped : Int32) (mErr : Int32) (mPpl : Int32) (mBts : Int32) (mUs : Int32) (mRa : Int32) (mSt : Int32) (mKi : Int32) (mWd : Int64) (mVal : Int32) (mLet : Int32) (mFin : Int32) (mNp : Int32) (mNb : Int32) (mOuts : Int32) (mWant : Int32) (mFnd : Int32) (mTape : Nat → Int32) (mNum : Nat → Int32) (mNam : Nat → Int32) (mFst : Nat → Int32) (mBnm : Nat → Int32) (mW : Nat → Int32) (mUn : Nat → Int32) (mSl : Nat → Int32) (mKp : Nat → Int32) (mnNum : Nat → Int32) (mnNam : Nat → Int32) (mnBo : Nat → Int32) (mnBn : Nat → Int32) (p : Int32) (hB0 : Blk w k (cM D α k mTaped mErr mPpl mBts mUs mRa mSt mKi mWd mVal mLet mFin mNp mNb mOuts mWant mFnd mTape mNum mNam mFst mBnm mW mUn mSl mKp mnNum mnNam mnBo mnBn)) (hy0 : vp_in p 20) (hy1 : ∀ q, vp_in q 20 → ¬ f_X12_of mW q 6 < 0 → vp_in (f_X12_of mW q 6) 20) : Met l yX12_saysPerson (ws_ yX12_saysPerson cX12_saysPerson 3 none) ({ frames := 2, cells := 0, slots := 0, locals := 45 }) (gPre D A [.ref (α (k)), .int p] w) (gQ D A none (fun w1 => Blk w1 k (cM D α k mTaped mErr mPpl mBts mUs mRa mSt mKi mWd mVal mLet mFin mNp mNb ((f_X12_saysPerson mOuts mWant mFnd mNam mW p).2) mWant ((f_X12_saysPerson mOuts mWant mFnd mNam mW p).1) mTape mNum mNam mFst mBnm mW mUn mSl mKp mnNum mnNam mnBo mnBn) ∧ Same w w1 k 14)) 0 0 A := by
  refine g_met [(0, .ref (α (k))), (1, .int p)] (plainFor_of_name (by decide)) (Nat.le_of_ble_eq_true rfl) rfl (fun pg en s mi ar below me co ls S hK hP hD hE hS hr hlk hnm hl => ?_)
  have hF : Same w w k 14 := Same.rf
  refine lv_aload_n S.1 S.2.1 dX12_saysPerson_0 rfl (lv_at hl 0 rfl) ?_
  refine lv_iload_n S.1 S.2.1 dX12_saysPerson_1 rfl (lv_at hl 1 rfl) ?_
  refine lv_iconst (v := 5) S.1 S.2.1 dX12_saysPerson_2 (by decide) ?_
  refine g_aftR0 (st1 := [.int (f_X12_of mW p 5)]) (g_V (As := [.int p, .int 5]) (rest := []) S mi_X12_of qw1579 (c_X12_of l D A w α (k) mTaped mErr mPpl mBts mUs mRa mSt mKi mWd mVal mLet mFin mNp mNb mOuts mWant mFnd mTape mNum mNam mFst mBnm mW mUn mSl mKp mnNum mnNam mnBo mnBn p 5 hB0 (by first | assumption | exact vin_d (by decide) | exact vp_in_nI (by omega) (by decide) | decide | omega) (by first | assumption | exact vin_d (by decide) | exact vp_in_nI (by omega) (by decide) | decide | omega)) hK hP hD hE hS (hB0 0 _ rfl) rfl rfl rfl hl.1 (Nat.le_of_ble_eq_true rfl) rfl rfl ⟨(Nat.le_of_ble_eq_true rfl), (Nat.le_of_ble_eq_true rfl)⟩ ⟨(Nat.le_of_ble_eq_true rfl), (Nat.le_of_ble_eq_true rfl)⟩ dX12_saysPerson_3) hS rfl (fun locs hS => ?_)
  refine lv_istore_n (lv' := [(2, .int (f_X12_of mW p 5)), (0, .ref (α (k))), (1, .int p)]) S.1 S.2.1 dX12_saysPerson_6 rfl hl (by decide) rfl (fun ls hl => ?_)
  refine lv_aload_n S.1 S.2.1 dX12_saysPerson_7 rfl (lv_at hl 1 rfl) ?_
  refine lv_aload_n S.1 S.2.1 dX12_saysPerson_8 rfl (lv_at hl 1 rfl) ?_
  refine g_get (v := .ref (α (k + 3))) S hK hP (hB0 0 _ rfl) rfl inX12 6 (by decide) qw1380 rfl dX12_saysPerson_9 ?_
  refine lv_iload_n S.1 S.2.1 dX12_saysPerson_12 rfl (lv_at hl 2 rfl) ?_
  refine g_iald S hK hP (hB0 3 _ rfl) (by first | assumption | exact vin_d (by decide) | exact vp_in_nI (by omega) (by decide) | decide) dX12_saysPerson_13 ?_
  refine lv_i2l (v := (mNam p.toNatClampNeg).toInt64) S.1 S.2.1 dX12_saysPerson_14 rfl ?_
  have hNm : (f_X12_saysWord mOuts mWant mFnd ((mNam p.toNatClampNeg).toInt64)) = (S_X12_saysPerson_15 mOuts mWant mFnd mNam p) := rfl
  have hCon := (c_X12_saysWord l D A w α (k) mTaped mErr mPpl mBts mUs mRa mSt mKi mWd mVal mLet mFin mNp mNb mOuts mWant mFnd mTape mNum mNam mFst mBnm mW mUn mSl mKp mnNum mnNam mnBo mnBn ((mNam p.toNatClampNeg).toInt64) hB0)
  rw [hNm] at hCon
  refine g_aft0 (st1 := []) (g_V (As := [.long ((mNam p.toNatClampNeg).toInt64)]) (rest := []) S mi_X12_saysWord qw1906 hCon hK hP hD hE hS (hB0 0 _ rfl) rfl rfl rfl hl.1 (Nat.le_of_ble_eq_true rfl) rfl rfl ⟨(Nat.le_of_ble_eq_true rfl), (Nat.le_of_ble_eq_true rfl)⟩ ⟨(Nat.le_of_ble_eq_true rfl), (Nat.le_of_ble_eq_true rfl)⟩ dX12_saysPerson_15) hS rfl (fun w1 H locs hQ hP hD hS => ?_)
  have hF := hF.trans hQ.2
  have hB0 : Blk w1 k (cM D α k mTaped mErr mPpl mBts mUs mRa mSt mKi mWd mVal mLet mFin mNp mNb ((S_X12_saysPerson_15 mOuts mWant mFnd mNam p).2) mWant ((S_X12_saysPerson_15 mOuts mWant mFnd mNam p).1) mTape mNum mNam mFst mBnm mW mUn mSl mKp mnNum mnNam mnBo mnBn) := hQ.1
  refine lv_aload_n S.1 S.2.1 dX12_saysPerson_18 rfl (lv_at hl 1 rfl) ?_
  refine lv_bipush (v := 32) S.1 S.2.1 dX12_saysPerson_19 (by decide) ?_
  have hNm : (f_X12_says ((S_X12_saysPerson_15 mOuts mWant mFnd mNam p).2) mWant ((S_X12_saysPerson_15 mOuts mWant mFnd mNam p).1) 32) = (S_X12_saysPerson_21 mOuts mWant mFnd mNam p) := rfl
  have hCon := (c_X12_says l D A w1 α (k) mTaped mErr mPpl mBts mUs mRa mSt mKi mWd mVal mLet mFin mNp mNb ((S_X12_saysPerson_15 mOuts mWant mFnd mNam p).2) mWant ((S_X12_saysPerson_15 mOuts mWant mFnd mNam p).1) mTape mNum mNam mFst mBnm mW mUn mSl mKp mnNum mnNam mnBo mnBn 32 hB0)
  rw [hNm] at hCon
  refine g_aft0 (st1 := []) (g_V (As := [.int 32]) (rest := []) S mi_X12_says qw1911 hCon hK hP hD hE hS (hB0 0 _ rfl) rfl rfl rfl hl.1 (Nat.le_of_ble_eq_true rfl) rfl rfl ⟨(Nat.le_of_ble_eq_true rfl), (Nat.le_of_ble_eq_true rfl)⟩ ⟨(Nat.le_of_ble_eq_true rfl), (Nat.le_of_ble_eq_true rfl)⟩ dX12_saysPerson_21) hS rfl (fun w2 H locs hQ hP hD hS => ?_)
  have hF := hF.trans hQ.2
  have hB0 : Blk w2 k (cM D α k mTaped mErr mPpl mBts mUs mRa mSt mKi mWd mVal mLet mFin mNp mNb ((S_X12_saysPerson_21 mOuts mWant mFnd mNam p).2) mWant ((S_X12_saysPerson_21 mOuts mWant mFnd mNam p).1) mTape mNum mNam mFst mBnm mW mUn mSl mKp mnNum mnNam mnBo mnBn) := hQ.1
  refine lv_aload_n S.1 S.2.1 dX12_saysPerson_24 rfl (lv_at hl 1 rfl) ?_
  refine lv_iload_n S.1 S.2.1 dX12_saysPerson_25 rfl (lv_at hl 0 rfl) ?_
  have jn26 : ∀ (wl : va_W) (H : Heap) (locs : List Loc) (ls : Array Slot), va_P D vwCl wl H → va_D A wl → va_S A s.heap H locs → Same w wl k 14 → Blk wl k (cM D α k mTaped mErr mPpl mBts mUs mRa mSt mKi mWd mVal mLet mFin mNp mNb ((S_X12_saysPerson_21 mOuts mWant mFnd mNam p).2) mWant ((S_X12_saysPerson_21 mOuts mWant mFnd mNam p).1) mTape mNum mNam mFst mBnm mW mUn mSl mKp mnNum mnNam mnBo mnBn) → lv_has ls 3 [(2, .int (f_X12_of mW p 5)), (0, .ref (α (k))), (1, .int p)] → W pg l en ({ frames := 2, cells := 0, slots := 0, locals := 45 } : Room) s mi ar below me co H locs 0 0 (MQ below (gQ D A none (fun w1 => Blk w1 k (cM D α k mTaped mErr mPpl mBts mUs mRa mSt mKi mWd mVal mLet mFin mNp mNb ((f_X12_saysPerson mOuts mWant mFnd mNam mW p).2) mWant ((f_X12_saysPerson mOuts mWant mFnd mNam mW p).1) mTape mNum mNam mFst mBnm mW mUn mSl mKp mnNum mnNam mnBo mnBn) ∧ Same w w1 k 14)) ar s 0 0 A) (F0 mi 60 ls [.long (J_X12_saysPerson_26 mW p), .ref (α (k))]) := by
    intro wl H locs ls hP hD hS hF hB0 hl
    have hNm : (f_X12_saysWord ((S_X12_saysPerson_21 mOuts mWant mFnd mNam p).2) mWant ((S_X12_saysPerson_21 mOuts mWant mFnd mNam p).1) (J_X12_saysPerson_26 mW p)) = (S_X12_saysPerson_60 mOuts mWant mFnd mNam mW p) := rfl
    have hCon := (c_X12_saysWord l D A wl α (k) mTaped mErr mPpl mBts mUs mRa mSt mKi mWd mVal mLet mFin mNp mNb ((S_X12_saysPerson_21 mOuts mWant mFnd mNam p).2) mWant ((S_X12_saysPerson_21 mOuts mWant mFnd mNam p).1) mTape mNum mNam mFst mBnm mW mUn mSl mKp mnNum mnNam mnBo mnBn (J_X12_saysPerson_26 mW p) hB0)
    rw [hNm] at hCon
    refine g_aft0 (st1 := []) (g_V (As := [.long (J_X12_saysPerson_26 mW p)]) (rest := []) S mi_X12_saysWord qw1906 hCon hK hP hD hE hS (hB0 0 _ rfl) rfl rfl rfl hl.1 (Nat.le_of_ble_eq_true rfl) rfl rfl ⟨(Nat.le_of_ble_eq_true rfl), (Nat.le_of_ble_eq_true rfl)⟩ ⟨(Nat.le_of_ble_eq_true rfl), (Nat.le_of_ble_eq_true rfl)⟩ dX12_saysPerson_60) hS rfl (fun w3 H locs hQ hP hD hS => ?_)
    have hF := hF.trans hQ.2
    have hB0 : Blk w3 k (cM D α k mTaped mErr mPpl mBts mUs mRa mSt mKi mWd mVal mLet mFin mNp mNb ((S_X12_saysPerson_60 mOuts mWant mFnd mNam mW p).2) mWant ((S_X12_saysPerson_60 mOuts mWant mFnd mNam mW p).1) mTape mNum mNam mFst mBnm mW mUn mSl mKp mnNum mnNam mnBo mnBn) := hQ.1
    refine lv_aload_n S.1 S.2.1 dX12_saysPerson_63 rfl (lv_at hl 1 rfl) ?_
    refine lv_iload_n S.1 S.2.1 dX12_saysPerson_64 rfl (lv_at hl 2 rfl) ?_
    refine lv_bipush (v := 6) S.1 S.2.1 dX12_saysPerson_65 (by decide) ?_
    refine g_aftR0 (st1 := [.int (f_X12_of mW p 6)]) (g_V (As := [.int p, .int 6]) (rest := []) S mi_X12_of qw1579 (c_X12_of l D A w3 α (k) mTaped mErr mPpl mBts mUs mRa mSt mKi mWd mVal mLet mFin mNp mNb ((S_X12_saysPerson_60 mOuts mWant mFnd mNam mW p).2) mWant ((S_X12_saysPerson_60 mOuts mWant mFnd mNam mW p).1) mTape mNum mNam mFst mBnm mW mUn mSl mKp mnNum mnNam mnBo mnBn p 6 hB0 (by first | assumption | exact vin_d (by decide) | exact vp_in_nI (by omega) (by decide) | decide | omega) (by first | assumption | exact vin_d (by decide) | exact vp_in_nI (by omega) (by decide) | decide | omega)) hK hP hD hE hS (hB0 0 _ rfl) rfl rfl rfl hl.1 (Nat.le_of_ble_eq_true rfl) rfl rfl ⟨(Nat.le_of_ble_eq_true rfl), (Nat.le_of_ble_eq_true rfl)⟩ ⟨(Nat.le_of_ble_eq_true rfl), (Nat.le_of_ble_eq_true rfl)⟩ dX12_saysPerson_67) hS rfl (fun locs hS => ?_)
    have jn70 : ∀ (wl : va_W) (H : Heap) (locs : List Loc) (ls : Array Slot), va_P D vwCl wl H → va_D A wl → va_S A s.heap H locs → Same w wl k 14 → Blk wl k (cM D α k mTaped mErr mPpl mBts mUs mRa mSt mKi mWd mVal mLet mFin mNp mNb ((J_X12_saysPerson_70 mOuts mWant mFnd mNam mW p).2) mWant ((J_X12_saysPerson_70 mOuts mWant mFnd mNam mW p).1) mTape mNum mNam mFst mBnm mW mUn mSl mKp mnNum mnNam mnBo mnBn) → lv_has ls 3 [(2, .int (f_X12_of mW p 5)), (0, .ref (α (k))), (1, .int p)] → W pg l en ({ frames := 2, cells := 0, slots := 0, locals := 45 } : Room) s mi ar below me co H locs 0 0 (MQ below (gQ D A none (fun w1 => Blk w1 k (cM D α k mTaped mErr mPpl mBts mUs mRa mSt mKi mWd mVal mLet mFin mNp mNb ((f_X12_saysPerson mOuts mWant mFnd mNam mW p).2) mWant ((f_X12_saysPerson mOuts mWant mFnd mNam mW p).1) mTape mNum mNam mFst mBnm mW mUn mSl mKp mnNum mnNam mnBo mnBn) ∧ Same w w1 k 14)) ar s 0 0 A) (F0 mi 96 ls []) := by
      intro wl H locs ls hP hD hS hF hB0 hl
      refine lv_aload_n S.1 S.2.1 dX12_saysPerson_96 rfl (lv_at hl 1 rfl) ?_
      refine lv_iload_n S.1 S.2.1 dX12_saysPerson_97 rfl (lv_at hl 2 rfl) ?_
      refine g_aftR0 (st1 := [.int (b2i (f_X12_isLaid mW p))]) (g_V (As := [.int p]) (rest := []) S mi_X12_isLaid qw1629 (c_X12_isLaid l D A wl α (k) mTaped mErr mPpl mBts mUs mRa mSt mKi mWd mVal mLet mFin mNp mNb ((J_X12_saysPerson_70 mOuts mWant mFnd mNam mW p).2) mWant ((J_X12_saysPerson_70 mOuts mWant mFnd mNam mW p).1) mTape mNum mNam mFst mBnm mW mUn mSl mKp mnNum mnNam mnBo mnBn p hB0 (by first | assumption | exact vin_d (by decide) | exact vp_in_nI (by omega) (by decide) | decide | omega)) hK hP hD hE hS (hB0 0 _ rfl) rfl rfl rfl hl.1 (Nat.le_of_ble_eq_true rfl) rfl rfl ⟨(Nat.le_of_ble_eq_true rfl), (Nat.le_of_ble_eq_true rfl)⟩ ⟨(Nat.le_of_ble_eq_true rfl), (Nat.le_of_ble_eq_true rfl)⟩ dX12_saysPerson_98) hS rfl (fun locs hS => ?_)
      have jn101 : ∀ (wl : va_W) (H : Heap) (locs : List Loc) (ls : Array Slot), va_P D vwCl wl H → va_D A wl → va_S A s.heap H locs → Same w wl k 14 → Blk wl k (cM D α k mTaped mErr mPpl mBts mUs mRa mSt mKi mWd mVal mLet mFin mNp mNb ((J_X12_saysPerson_101 mOuts mWant mFnd mNam mW p).2) mWant ((J_X12_saysPerson_101 mOuts mWant mFnd mNam mW p).1) mTape mNum mNam mFst mBnm mW mUn mSl mKp mnNum mnNam mnBo mnBn) → lv_has ls 3 [(2, .int (f_X12_of mW p 5)), (0, .ref (α (k))), (1, .int p)] → W pg l en ({ frames := 2, cells := 0, slots := 0, locals := 45 } : Room) s mi ar below me co H locs 0 0 (MQ below (gQ D A none (fun w1 => Blk w1 k (cM D α k mTaped mErr mPpl mBts mUs mRa mSt mKi mWd mVal mLet mFin mNp mNb ((f_X12_saysPerson mOuts mWant mFnd mNam mW p).2) mWant ((f_X12_saysPerson mOuts mWant mFnd mNam mW p).1) mTape mNum mNam mFst mBnm mW mUn mSl mKp mnNum mnNam mnBo mnBn) ∧ Same w w1 k 14)) ar s 0 0 A) (F0 mi 121 ls []) := by
        intro wl H locs ls hP hD hS hF hB0 hl
        refine lv_aload_n S.1 S.2.1 dX12_saysPerson_121 rfl (lv_at hl 1 rfl) ?_
        refine lv_iload_n S.1 S.2.1 dX12_saysPerson_122 rfl (lv_at hl 2 rfl) ?_
        refine g_aftR0 (st1 := [.int (b2i (f_X12_isAtSea mW p))]) (g_V (As := [.int p]) (rest := []) S mi_X12_isAtSea qw1583 (c_X12_isAtSea l D A wl α (k) mTaped mErr mPpl mBts mUs mRa mSt mKi mWd mVal mLet mFin mNp mNb ((J_X12_saysPerson_101 mOuts mWant mFnd mNam mW p).2) mWant ((J_X12_saysPerson_101 mOuts mWant mFnd mNam mW p).1) mTape mNum mNam mFst mBnm mW mUn mSl mKp mnNum mnNam mnBo mnBn p hB0 (by first | assumption | exact vin_d (by decide) | exact vp_in_nI (by omega) (by decide) | decide | omega)) hK hP hD hE hS (hB0 0 _ rfl) rfl rfl rfl hl.1 (Nat.le_of_ble_eq_true rfl) rfl rfl ⟨(Nat.le_of_ble_eq_true rfl), (Nat.le_of_ble_eq_true rfl)⟩ ⟨(Nat.le_of_ble_eq_true rfl), (Nat.le_of_ble_eq_true rfl)⟩ dX12_saysPerson_123) hS rfl (fun locs hS => ?_)
        have jn126 : ∀ (wl : va_W) (H : Heap) (locs : List Loc) (ls : Array Slot), va_P D vwCl wl H → va_D A wl → va_S A s.heap H locs → Same w wl k 14 → Blk wl k (cM D α k mTaped mErr mPpl mBts mUs mRa mSt mKi mWd mVal mLet mFin mNp mNb ((J_X12_saysPerson_126 mOuts mWant mFnd mNam mW p).2) mWant ((J_X12_saysPerson_126 mOuts mWant mFnd mNam mW p).1) mTape mNum mNam mFst mBnm mW mUn mSl mKp mnNum mnNam mnBo mnBn) → lv_has ls 3 [(2, .int (f_X12_of mW p 5)), (0, .ref (α (k))), (1, .int p)] → W pg l en ({ frames := 2, cells := 0, slots := 0, locals := 45 } : Room) s mi ar below me co H locs 0 0 (MQ below (gQ D A none (fun w1 => Blk w1 k (cM D α k mTaped mErr mPpl mBts mUs mRa mSt mKi mWd mVal mLet mFin mNp mNb ((f_X12_saysPerson mOuts mWant mFnd mNam mW p).2) mWant ((f_X12_saysPerson mOuts mWant mFnd mNam mW p).1) mTape mNum mNam mFst mBnm mW mUn mSl mKp mnNum mnNam mnBo mnBn) ∧ Same w w1 k 14)) ar s 0 0 A) (F0 mi 141 ls []) := by
          intro wl H locs ls hP hD hS hF hB0 hl
          refine lv_aload_n S.1 S.2.1 dX12_saysPerson_141 rfl (lv_at hl 1 rfl) ?_
          refine lv_bipush (v := 10) S.1 S.2.1 dX12_saysPerson_142 (by decide) ?_
          have hNm : (f_X12_says ((J_X12_saysPerson_126 mOuts mWant mFnd mNam mW p).2) mWant ((J_X12_saysPerson_126 mOuts mWant mFnd mNam mW p).1) 10) = (S_X12_saysPerson_144 mOuts mWant mFnd mNam mW p) := rfl
          have hCon := (c_X12_says l D A wl α (k) mTaped mErr mPpl mBts mUs mRa mSt mKi mWd mVal mLet mFin mNp mNb ((J_X12_saysPerson_126 mOuts mWant mFnd mNam mW p).2) mWant ((J_X12_saysPerson_126 mOuts mWant mFnd mNam mW p).1) mTape mNum mNam mFst mBnm mW mUn mSl mKp mnNum mnNam mnBo mnBn 10 hB0)
          rw [hNm] at hCon
          refine g_aft0 (st1 := []) (g_V (As := [.int 10]) (rest := []) S mi_X12_says qw1911 hCon hK hP hD hE hS (hB0 0 _ rfl) rfl rfl rfl hl.1 (Nat.le_of_ble_eq_true rfl) rfl rfl ⟨(Nat.le_of_ble_eq_true rfl), (Nat.le_of_ble_eq_true rfl)⟩ ⟨(Nat.le_of_ble_eq_true rfl), (Nat.le_of_ble_eq_true rfl)⟩ dX12_saysPerson_144) hS rfl (fun w10 H locs hQ hP hD hS => ?_)
          have hF := hF.trans hQ.2
          have hB0 : Blk w10 k (cM D α k mTaped mErr mPpl mBts mUs mRa mSt mKi mWd mVal mLet mFin mNp mNb ((S_X12_saysPerson_144 mOuts mWant mFnd mNam mW p).2) mWant ((S_X12_saysPerson_144 mOuts mWant mFnd mNam mW p).1) mTape mNum mNam mFst mBnm mW mUn mSl mKp mnNum mnNam mnBo mnBn) := hQ.1
          have hf : (f_X12_saysPerson mOuts mWant mFnd mNam mW p) = ((S_X12_saysPerson_144 mOuts mWant mFnd mNam mW p).1, (S_X12_saysPerson_144 mOuts mWant mFnd mNam mW p).2) := rfl
          exact g_vret S hr hlk hP hD hS (rfl) (⟨by rw [hf]; dsimp only; exact hB0, hF⟩) dX12_saysPerson_147
        refine g_bifeq (b := (f_X12_isAtSea mW p)) (tgt := 141) S dX12_saysPerson_126 (by decide) (fun (c6 : (f_X12_isAtSea mW p) = false) => ?_) (fun (c6 : (f_X12_isAtSea mW p) = true) => ?_)
        · skip
          have hJ : (J_X12_saysPerson_126 mOuts mWant mFnd mNam mW p) = ((J_X12_saysPerson_101 mOuts mWant mFnd mNam mW p).1, (J_X12_saysPerson_101 mOuts mWant mFnd mNam mW p).2) := cd_f c6
          have qj := jn126
          rw [hJ] at qj
          (try dsimp only at qj)
          exact qj _ _ _ _ hP hD hS hF hB0 (lv_sub hl [0, 1, 2] rfl)
        · refine lv_aload_n S.1 S.2.1 dX12_saysPerson_129 rfl (lv_at hl 1 rfl) ?_
          refine lv_bipush (v := 32) S.1 S.2.1 dX12_saysPerson_130 (by decide) ?_
          have hNm : (f_X12_says ((J_X12_saysPerson_101 mOuts mWant mFnd mNam mW p).2) mWant ((J_X12_saysPerson_101 mOuts mWant mFnd mNam mW p).1) 32) = (S_X12_saysPerson_132 mOuts mWant mFnd mNam mW p) := rfl
          have hCon := (c_X12_says l D A wl α (k) mTaped mErr mPpl mBts mUs mRa mSt mKi mWd mVal mLet mFin mNp mNb ((J_X12_saysPerson_101 mOuts mWant mFnd mNam mW p).2) mWant ((J_X12_saysPerson_101 mOuts mWant mFnd mNam mW p).1) mTape mNum mNam mFst mBnm mW mUn mSl mKp mnNum mnNam mnBo mnBn 32 hB0)
          rw [hNm] at hCon
          refine g_aft0 (st1 := []) (g_V (As := [.int 32]) (rest := []) S mi_X12_says qw1911 hCon hK hP hD hE hS (hB0 0 _ rfl) rfl rfl rfl hl.1 (Nat.le_of_ble_eq_true rfl) rfl rfl ⟨(Nat.le_of_ble_eq_true rfl), (Nat.le_of_ble_eq_true rfl)⟩ ⟨(Nat.le_of_ble_eq_true rfl), (Nat.le_of_ble_eq_true rfl)⟩ dX12_saysPerson_132) hS rfl (fun w8 H locs hQ hP hD hS => ?_)
          have hF := hF.trans hQ.2
          have hB0 : Blk w8 k (cM D α k mTaped mErr mPpl mBts mUs mRa mSt mKi mWd mVal mLet mFin mNp mNb ((S_X12_saysPerson_132 mOuts mWant mFnd mNam mW p).2) mWant ((S_X12_saysPerson_132 mOuts mWant mFnd mNam mW p).1) mTape mNum mNam mFst mBnm mW mUn mSl mKp mnNum mnNam mnBo mnBn) := hQ.1
          refine lv_aload_n S.1 S.2.1 dX12_saysPerson_135 rfl (lv_at hl 1 rfl) ?_
          refine lv_bipush (v := 42) S.1 S.2.1 dX12_saysPerson_136 (by decide) ?_
          have hNm : (f_X12_says ((S_X12_saysPerson_132 mOuts mWant mFnd mNam mW p).2) mWant ((S_X12_saysPerson_132 mOuts mWant mFnd mNam mW p).1) 42) = (S_X12_saysPerson_138 mOuts mWant mFnd mNam mW p) := rfl
          have hCon := (c_X12_says l D A w8 α (k) mTaped mErr mPpl mBts mUs mRa mSt mKi mWd mVal mLet mFin mNp mNb ((S_X12_saysPerson_132 mOuts mWant mFnd mNam mW p).2) mWant ((S_X12_saysPerson_132 mOuts mWant mFnd mNam mW p).1) mTape mNum mNam mFst mBnm mW mUn mSl mKp mnNum mnNam mnBo mnBn 42 hB0)
          rw [hNm] at hCon
          refine g_aft0 (st1 := []) (g_V (As := [.int 42]) (rest := []) S mi_X12_says qw1911 hCon hK hP hD hE hS (hB0 0 _ rfl) rfl rfl rfl hl.1 (Nat.le_of_ble_eq_true rfl) rfl rfl ⟨(Nat.le_of_ble_eq_true rfl), (Nat.le_of_ble_eq_true rfl)⟩ ⟨(Nat.le_of_ble_eq_true rfl), (Nat.le_of_ble_eq_true rfl)⟩ dX12_saysPerson_138) hS rfl (fun w9 H locs hQ hP hD hS => ?_)
          have hF := hF.trans hQ.2
          have hB0 : Blk w9 k (cM D α k mTaped mErr mPpl mBts mUs mRa mSt mKi mWd mVal mLet mFin mNp mNb ((S_X12_saysPerson_138 mOuts mWant mFnd mNam mW p).2) mWant ((S_X12_saysPerson_138 mOuts mWant mFnd mNam mW p).1) mTape mNum mNam mFst mBnm mW mUn mSl mKp mnNum mnNam mnBo mnBn) := hQ.1
          have hJ : (J_X12_saysPerson_126 mOuts mWant mFnd mNam mW p) = ((S_X12_saysPerson_138 mOuts mWant mFnd mNam mW p).1, (S_X12_saysPerson_138 mOuts mWant mFnd mNam mW p).2) := cd_t c6
          have qj := jn126
          rw [hJ] at qj
          (try dsimp only at qj)
          exact qj _ _ _ _ hP hD hS hF hB0 (lv_sub hl [0, 1, 2] rfl)
      refine g_bifeq (b := (f_X12_isLaid mW p)) (tgt := 121) S dX12_saysPerson_101 (by decide) (fun (c5 : (f_X12_isLaid mW p) = false) => ?_) (fun (c5 : (f_X12_isLaid mW p) = true) => ?_)
      · skip
        have hJ : (J_X12_saysPerson_101 mOuts mWant mFnd mNam mW p) = ((J_X12_saysPerson_70 mOuts mWant mFnd mNam mW p).1, (J_X12_saysPerson_70 mOuts mWant mFnd mNam mW p).2) := cd_f c5
        have qj := jn101
        rw [hJ] at qj
        (try dsimp only at qj)
        exact qj _ _ _ _ hP hD hS hF hB0 (lv_sub hl [0, 1, 2] rfl)
      · refine lv_aload_n S.1 S.2.1 dX12_saysPerson_104 rfl (lv_at hl 1 rfl) ?_
        refine lv_bipush (v := 32) S.1 S.2.1 dX12_saysPerson_105 (by decide) ?_
        have hNm : (f_X12_says ((J_X12_saysPerson_70 mOuts mWant mFnd mNam mW p).2) mWant ((J_X12_saysPerson_70 mOuts mWant mFnd mNam mW p).1) 32) = (S_X12_saysPerson_107 mOuts mWant mFnd mNam mW p) := rfl
        have hCon := (c_X12_says l D A wl α (k) mTaped mErr mPpl mBts mUs mRa mSt mKi mWd mVal mLet mFin mNp mNb ((J_X12_saysPerson_70 mOuts mWant mFnd mNam mW p).2) mWant ((J_X12_saysPerson_70 mOuts mWant mFnd mNam mW p).1) mTape mNum mNam mFst mBnm mW mUn mSl mKp mnNum mnNam mnBo mnBn 32 hB0)
        rw [hNm] at hCon
        refine g_aft0 (st1 := []) (g_V (As := [.int 32]) (rest := []) S mi_X12_says qw1911 hCon hK hP hD hE hS (hB0 0 _ rfl) rfl rfl rfl hl.1 (Nat.le_of_ble_eq_true rfl) rfl rfl ⟨(Nat.le_of_ble_eq_true rfl), (Nat.le_of_ble_eq_true rfl)⟩ ⟨(Nat.le_of_ble_eq_true rfl), (Nat.le_of_ble_eq_true rfl)⟩ dX12_saysPerson_107) hS rfl (fun w6 H locs hQ hP hD hS => ?_)
        have hF := hF.trans hQ.2
        have hB0 : Blk w6 k (cM D α k mTaped mErr mPpl mBts mUs mRa mSt mKi mWd mVal mLet mFin mNp mNb ((S_X12_saysPerson_107 mOuts mWant mFnd mNam mW p).2) mWant ((S_X12_saysPerson_107 mOuts mWant mFnd mNam mW p).1) mTape mNum mNam mFst mBnm mW mUn mSl mKp mnNum mnNam mnBo mnBn) := hQ.1
        refine lv_aload_n S.1 S.2.1 dX12_saysPerson_110 rfl (lv_at hl 1 rfl) ?_
        refine lv_aload_n S.1 S.2.1 dX12_saysPerson_111 rfl (lv_at hl 1 rfl) ?_
        refine lv_iload_n S.1 S.2.1 dX12_saysPerson_112 rfl (lv_at hl 2 rfl) ?_
        refine lv_bipush (v := 8) S.1 S.2.1 dX12_saysPerson_113 (by decide) ?_
        refine g_aftR0 (st1 := [.int (f_X12_of mW p 8), .ref (α (k))]) (g_V (As := [.int p, .int 8]) (rest := [.ref (α (k))]) S mi_X12_of qw1579 (c_X12_of l D A w6 α (k) mTaped mErr mPpl mBts mUs mRa mSt mKi mWd mVal mLet mFin mNp mNb ((S_X12_saysPerson_107 mOuts mWant mFnd mNam mW p).2) mWant ((S_X12_saysPerson_107 mOuts mWant mFnd mNam mW p).1) mTape mNum mNam mFst mBnm mW mUn mSl mKp mnNum mnNam mnBo mnBn p 8 hB0 (by first | assumption | exact vin_d (by decide) | exact vp_in_nI (by omega) (by decide) | decide | omega) (by first | assumption | exact vin_d (by decide) | exact vp_in_nI (by omega) (by decide) | decide | omega)) hK hP hD hE hS (hB0 0 _ rfl) rfl rfl rfl hl.1 (Nat.le_of_ble_eq_true rfl) rfl rfl ⟨(Nat.le_of_ble_eq_true rfl), (Nat.le_of_ble_eq_true rfl)⟩ ⟨(Nat.le_of_ble_eq_true rfl), (Nat.le_of_ble_eq_true rfl)⟩ dX12_saysPerson_115) hS rfl (fun locs hS => ?_)
        have hNm : (f_X12_saysNumber ((S_X12_saysPerson_107 mOuts mWant mFnd mNam mW p).2) mWant ((S_X12_saysPerson_107 mOuts mWant mFnd mNam mW p).1) (f_X12_of mW p 8)) = (S_X12_saysPerson_118 mOuts mWant mFnd mNam mW p) := rfl
        have hCon := (c_X12_saysNumber l D A w6 α (k) mTaped mErr mPpl mBts mUs mRa mSt mKi mWd mVal mLet mFin mNp mNb ((S_X12_saysPerson_107 mOuts mWant mFnd mNam mW p).2) mWant ((S_X12_saysPerson_107 mOuts mWant mFnd mNam mW p).1) mTape mNum mNam mFst mBnm mW mUn mSl mKp mnNum mnNam mnBo mnBn (f_X12_of mW p 8) hB0)
        rw [hNm] at hCon
        refine g_aft0 (st1 := []) (g_V (As := [.int (f_X12_of mW p 8)]) (rest := []) S mi_X12_saysNumber qw1919 hCon hK hP hD hE hS (hB0 0 _ rfl) rfl rfl rfl hl.1 (Nat.le_of_ble_eq_true rfl) rfl rfl ⟨(Nat.le_of_ble_eq_true rfl), (Nat.le_of_ble_eq_true rfl)⟩ ⟨(Nat.le_of_ble_eq_true rfl), (Nat.le_of_ble_eq_true rfl)⟩ dX12_saysPerson_118) hS rfl (fun w7 H locs hQ hP hD hS => ?_)
        have hF := hF.trans hQ.2
        have hB0 : Blk w7 k (cM D α k mTaped mErr mPpl mBts mUs mRa mSt mKi mWd mVal mLet mFin mNp mNb ((S_X12_saysPerson_118 mOuts mWant mFnd mNam mW p).2) mWant ((S_X12_saysPerson_118 mOuts mWant mFnd mNam mW p).1) mTape mNum mNam mFst mBnm mW mUn mSl mKp mnNum mnNam mnBo mnBn) := hQ.1
        have hJ : (J_X12_saysPerson_101 mOuts mWant mFnd mNam mW p) = ((S_X12_saysPerson_118 mOuts mWant mFnd mNam mW p).1, (S_X12_saysPerson_118 mOuts mWant mFnd mNam mW p).2) := cd_t c5
        have qj := jn101
        rw [hJ] at qj
        (try dsimp only at qj)
        exact qj _ _ _ _ hP hD hS hF hB0 (lv_sub hl [0, 1, 2] rfl)
    refine lv_if_lt (tgt := 96) S.1 S.2.1 dX12_saysPerson_70 (by decide) (fun (c4 : (f_X12_of mW p 6) < 0) => ?_) (fun (c4 : ¬ (f_X12_of mW p 6) < 0) => ?_)
    · skip
      have hJ : (J_X12_saysPerson_70 mOuts mWant mFnd mNam mW p) = ((S_X12_saysPerson_60 mOuts mWant mFnd mNam mW p).1, (S_X12_saysPerson_60 mOuts mWant mFnd mNam mW p).2) := if_pos c4
      have qj := jn70
      rw [hJ] at qj
      (try dsimp only at qj)
      exact qj _ _ _ _ hP hD hS hF hB0 (lv_sub hl [0, 1, 2] rfl)
    · refine lv_aload_n S.1 S.2.1 dX12_saysPerson_73 rfl (lv_at hl 1 rfl) ?_
      refine lv_bipush (v := 32) S.1 S.2.1 dX12_saysPerson_74 (by decide) ?_
      have hNm : (f_X12_says ((S_X12_saysPerson_60 mOuts mWant mFnd mNam mW p).2) mWant ((S_X12_saysPerson_60 mOuts mWant mFnd mNam mW p).1) 32) = (S_X12_saysPerson_76 mOuts mWant mFnd mNam mW p) := rfl
      have hCon := (c_X12_says l D A w3 α (k) mTaped mErr mPpl mBts mUs mRa mSt mKi mWd mVal mLet mFin mNp mNb ((S_X12_saysPerson_60 mOuts mWant mFnd mNam mW p).2) mWant ((S_X12_saysPerson_60 mOuts mWant mFnd mNam mW p).1) mTape mNum mNam mFst mBnm mW mUn mSl mKp mnNum mnNam mnBo mnBn 32 hB0)
      rw [hNm] at hCon
      refine g_aft0 (st1 := []) (g_V (As := [.int 32]) (rest := []) S mi_X12_says qw1911 hCon hK hP hD hE hS (hB0 0 _ rfl) rfl rfl rfl hl.1 (Nat.le_of_ble_eq_true rfl) rfl rfl ⟨(Nat.le_of_ble_eq_true rfl), (Nat.le_of_ble_eq_true rfl)⟩ ⟨(Nat.le_of_ble_eq_true rfl), (Nat.le_of_ble_eq_true rfl)⟩ dX12_saysPerson_76) hS rfl (fun w4 H locs hQ hP hD hS => ?_)
      have hF := hF.trans hQ.2
      have hB0 : Blk w4 k (cM D α k mTaped mErr mPpl mBts mUs mRa mSt mKi mWd mVal mLet mFin mNp mNb ((S_X12_saysPerson_76 mOuts mWant mFnd mNam mW p).2) mWant ((S_X12_saysPerson_76 mOuts mWant mFnd mNam mW p).1) mTape mNum mNam mFst mBnm mW mUn mSl mKp mnNum mnNam mnBo mnBn) := hQ.1
      refine lv_aload_n S.1 S.2.1 dX12_saysPerson_79 rfl (lv_at hl 1 rfl) ?_
      refine lv_aload_n S.1 S.2.1 dX12_saysPerson_80 rfl (lv_at hl 1 rfl) ?_
      refine g_get (v := .ref (α (k + 3))) S hK hP (hB0 0 _ rfl) rfl inX12 6 (by decide) qw1380 rfl dX12_saysPerson_81 ?_
      refine lv_aload_n S.1 S.2.1 dX12_saysPerson_84 rfl (lv_at hl 1 rfl) ?_
      refine lv_iload_n S.1 S.2.1 dX12_saysPerson_85 rfl (lv_at hl 2 rfl) ?_
      refine lv_bipush (v := 6) S.1 S.2.1 dX12_saysPerson_86 (by decide) ?_
      refine g_aftR0 (st1 := [.int (f_X12_of mW p 6), .ref (α (k + 3)), .ref (α (k))]) (g_V (As := [.int p, .int 6]) (rest := [.ref (α (k + 3)), .ref (α (k))]) S mi_X12_of qw1579 (c_X12_of l D A w4 α (k) mTaped mErr mPpl mBts mUs mRa mSt mKi mWd mVal mLet mFin mNp mNb ((S_X12_saysPerson_76 mOuts mWant mFnd mNam mW p).2) mWant ((S_X12_saysPerson_76 mOuts mWant mFnd mNam mW p).1) mTape mNum mNam mFst mBnm mW mUn mSl mKp mnNum mnNam mnBo mnBn p 6 hB0 (by first | assumption | exact vin_d (by decide) | exact vp_in_nI (by omega) (by decide) | decide | omega) (by first | assumption | exact vin_d (by decide) | exact vp_in_nI (by omega) (by decide) | decide | omega)) hK hP hD hE hS (hB0 0 _ rfl) rfl rfl rfl hl.1 (Nat.le_of_ble_eq_true rfl) rfl rfl ⟨(Nat.le_of_ble_eq_true rfl), (Nat.le_of_ble_eq_true rfl)⟩ ⟨(Nat.le_of_ble_eq_true rfl), (Nat.le_of_ble_eq_true rfl)⟩ dX12_saysPerson_88) hS rfl (fun locs hS => ?_)
      refine g_iald S hK hP (hB0 3 _ rfl) (hy1 _ hy0 (by assumption)) dX12_saysPerson_91 ?_
      refine lv_i2l (v := (mNam (f_X12_of mW p 6).toNatClampNeg).toInt64) S.1 S.2.1 dX12_saysPerson_92 rfl ?_
      have hNm : (f_X12_saysWord ((S_X12_saysPerson_76 mOuts mWant mFnd mNam mW p).2) mWant ((S_X12_saysPerson_76 mOuts mWant mFnd mNam mW p).1) ((mNam (f_X12_of mW p 6).toNatClampNeg).toInt64)) = (S_X12_saysPerson_93 mOuts mWant mFnd mNam mW p) := rfl
      have hCon := (c_X12_saysWord l D A w4 α (k) mTaped mErr mPpl mBts mUs mRa mSt mKi mWd mVal mLet mFin mNp mNb ((S_X12_saysPerson_76 mOuts mWant mFnd mNam mW p).2) mWant ((S_X12_saysPerson_76 mOuts mWant mFnd mNam mW p).1) mTape mNum mNam mFst mBnm mW mUn mSl mKp mnNum mnNam mnBo mnBn ((mNam (f_X12_of mW p 6).toNatClampNeg).toInt64) hB0)
      rw [hNm] at hCon
      refine g_aft0 (st1 := []) (g_V (As := [.long ((mNam (f_X12_of mW p 6).toNatClampNeg).toInt64)]) (rest := []) S mi_X12_saysWord qw1906 hCon hK hP hD hE hS (hB0 0 _ rfl) rfl rfl rfl hl.1 (Nat.le_of_ble_eq_true rfl) rfl rfl ⟨(Nat.le_of_ble_eq_true rfl), (Nat.le_of_ble_eq_true rfl)⟩ ⟨(Nat.le_of_ble_eq_true rfl), (Nat.le_of_ble_eq_true rfl)⟩ dX12_saysPerson_93) hS rfl (fun w5 H locs hQ hP hD hS => ?_)
      have hF := hF.trans hQ.2
      have hB0 : Blk w5 k (cM D α k mTaped mErr mPpl mBts mUs mRa mSt mKi mWd mVal mLet mFin mNp mNb ((S_X12_saysPerson_93 mOuts mWant mFnd mNam mW p).2) mWant ((S_X12_saysPerson_93 mOuts mWant mFnd mNam mW p).1) mTape mNum mNam mFst mBnm mW mUn mSl mKp mnNum mnNam mnBo mnBn) := hQ.1
      have hJ : (J_X12_saysPerson_70 mOuts mWant mFnd mNam mW p) = ((S_X12_saysPerson_93 mOuts mWant mFnd mNam mW p).1, (S_X12_saysPerson_93 mOuts mWant mFnd mNam mW p).2) := if_neg c4
      have qj := jn70
      rw [hJ] at qj
      (try dsimp only at qj)
      exact qj _ _ _ _ hP hD hS hF hB0 (lv_sub hl [0, 1, 2] rfl)
  refine lv_if_ne (tgt := 35) S.1 S.2.1 dX12_saysPerson_26 (by decide) (fun (c1 : ¬ (f_X12_of mW p 5) = 0) => ?_) (fun (c1 : (f_X12_of mW p 5) = 0) => ?_)
  · refine lv_iload_n S.1 S.2.1 dX12_saysPerson_35 rfl (lv_at hl 0 rfl) ?_
    refine lv_iconst (v := 1) S.1 S.2.1 dX12_saysPerson_36 (by decide) ?_
    refine lv_icmp_ne (tgt := 46) S.1 S.2.1 dX12_saysPerson_37 (by decide) (fun (c2 : ¬ (f_X12_of mW p 5) = 1) => ?_) (fun (c2 : (f_X12_of mW p 5) = 1) => ?_)
    · refine lv_iload_n S.1 S.2.1 dX12_saysPerson_46 rfl (lv_at hl 0 rfl) ?_
      refine lv_iconst (v := 2) S.1 S.2.1 dX12_saysPerson_47 (by decide) ?_
      refine lv_icmp_ne (tgt := 57) S.1 S.2.1 dX12_saysPerson_48 (by decide) (fun (c3 : ¬ (f_X12_of mW p 5) = 2) => ?_) (fun (c3 : (f_X12_of mW p 5) = 2) => ?_)
      · refine lv_ldc2 (v := 659117163) S.1 S.2.1 S.2.2.2.1 (S.2.2.2.2 _ qw1918) dX12_saysPerson_57 ?_
        have hJ : (J_X12_saysPerson_26 mW p) = 659117163 := (if_neg c1).trans ((if_neg c2).trans (if_neg c3))
        have qj := jn26
        rw [hJ] at qj
        exact qj _ _ _ _ hP hD hS hF hB0 (lv_sub hl [0, 1, 2] rfl)
      · refine lv_ldc2 (v := 394532) S.1 S.2.1 S.2.2.2.1 (S.2.2.2.2 _ qw1917) dX12_saysPerson_51 ?_
        refine lv_goto (tgt := 60) S.1 S.2.1 dX12_saysPerson_54 (by decide) ?_
        have hJ : (J_X12_saysPerson_26 mW p) = 394532 := (if_neg c1).trans ((if_neg c2).trans (if_pos c3))
        have qj := jn26
        rw [hJ] at qj
        exact qj _ _ _ _ hP hD hS hF hB0 (lv_sub hl [0, 1, 2] rfl)
    · refine lv_ldc2 (v := 763528) S.1 S.2.1 S.2.2.2.1 (S.2.2.2.2 _ qw1916) dX12_saysPerson_40 ?_
      refine lv_goto (tgt := 60) S.1 S.2.1 dX12_saysPerson_43 (by decide) ?_
      have hJ : (J_X12_saysPerson_26 mW p) = 763528 := (if_neg c1).trans (if_pos c2)
      have qj := jn26
      rw [hJ] at qj
      exact qj _ _ _ _ hP hD hS hF hB0 (lv_sub hl [0, 1, 2] rfl)
  · refine lv_ldc2 (v := 263620) S.1 S.2.1 S.2.2.2.1 (S.2.2.2.2 _ qw1915) dX12_saysPerson_29 ?_
    refine lv_goto (tgt := 60) S.1 S.2.1 dX12_saysPerson_32 (by decide) ?_
    have hJ : (J_X12_saysPerson_26 mW p) = 263620 := if_pos c1
    have qj := jn26
    rw [hJ] at qj
    exact qj _ _ _ _ hP hD hS hF hB0 (lv_sub hl [0, 1, 2] rfl)
noncomputable def S_X12_saysView_2 (i : Int32) : Int32 × Int32 × Int32 := (f_X12_startsText i)
noncomputable def S_X12_saysView_17 (mNam : Nat → Int32) (mW : Nat → Int32) (i : Int32) (n : Nat) (sn : Int32 × Int32) : Int32 × Int32 := (f_X12_saysPerson (sn.2) ((S_X12_saysView_2 i).2.2) (sn.1) mNam mW (nI n))
noncomputable def G_X12_saysView_7 (mNam : Nat → Int32) (mW : Nat → Int32) (i : Int32) (n : Nat) (sn : Int32 × Int32) : Int32 × Int32 := ((S_X12_saysView_17 mNam mW i n sn).1, (S_X12_saysView_17 mNam mW i n sn).2)
noncomputable def L_X12_saysView_7 (mNam : Nat → Int32) (mW : Nat → Int32) (i : Int32) : Nat → Int32 × Int32 := iter_ (G_X12_saysView_7 mNam mW i) ((S_X12_saysView_2 i).1, (S_X12_saysView_2 i).2.1)
noncomputable def f_X12_saysView (mPpl : Int32) (mNam : Nat → Int32) (mW : Nat → Int32) (i : Int32) : Int32 × Int32 × Int32 := ((L_X12_saysView_7 mNam mW i mPpl.toNatClampNeg).1, (L_X12_saysView_7 mNam mW i mPpl.toNatClampNeg).2, (S_X12_saysView_2 i).2.2)
set_option maxHeartbeats 4000000 in
set_option maxRecDepth 100000 in
theorem c_X12_saysView (l : Launch) (D : va_G) (A : Nat → Prop) (w : va_W) (α : Nat → Nat) (k : Nat) (mTaped : Int32) (mErr : Int32) (mPpl : Int32) (mBts : Int32) (mUs : Int32) (mRa : Int32) (mSt : Int32) (mKi : Int32) (mWd : Int64) (mVal : Int32) (mLet : Int32) (mFin : Int32) (mNp : Int32) (mNb : Int32) (mOuts : Int32) (mWant : Int32) (mFnd : Int32) (mTape : Nat → Int32) (mNum : Nat → Int32) (mNam : Nat → Int32) (mFst : Nat → Int32) (mBnm : Nat → Int32) (mW : Nat → Int32) (mUn : Nat → Int32) (mSl : Nat → Int32) (mKp : Nat → Int32) (mnNum : Nat → Int32) (mnNam : Nat → Int32) (mnBo : Nat → Int32) (mnBn : Nat → Int32) (i : Int32) (hB0 : Blk w k (cM D α k mTaped mErr mPpl mBts mUs mRa mSt mKi mWd mVal mLet mFin mNp mNb mOuts mWant mFnd mTape mNum mNam mFst mBnm mW mUn mSl mKp mnNum mnNam mnBo mnBn)) (hy0 : vp_in mPpl 21) (hy1 : ∀ q, vp_in q 20 → ¬ f_X12_of mW q 6 < 0 → vp_in (f_X12_of mW q 6) 20) : Met l yX12_saysView (ws_ yX12_saysView cX12_saysView 3 none) ({ frames := 3, cells := 0, slots := 0, locals := 67 }) (gPre D A [.ref (α (k)), .int i] w) (gQ D A none (fun w1 => Blk w1 k (cM D α k mTaped mErr mPpl mBts mUs mRa mSt mKi mWd mVal mLet mFin mNp mNb ((f_X12_saysView mPpl mNam mW i).2.1) ((f_X12_saysView mPpl mNam mW i).2.2) ((f_X12_saysView mPpl mNam mW i).1) mTape mNum mNam mFst mBnm mW mUn mSl mKp mnNum mnNam mnBo mnBn) ∧ Same w w1 k 14)) 0 0 A := by
  refine g_met [(0, .ref (α (k))), (1, .int i)] (plainFor_of_name (by decide)) (Nat.le_of_ble_eq_true rfl) rfl (fun pg en s mi ar below me co ls S hK hP hD hE hS hr hlk hnm hl => ?_)
  have hF : Same w w k 14 := Same.rf
  have hpn := vin_lt (show vp_in mPpl 21 by assumption)
  refine lv_aload_n S.1 S.2.1 dX12_saysView_0 rfl (lv_at hl 0 rfl) ?_
  refine lv_iload_n S.1 S.2.1 dX12_saysView_1 rfl (lv_at hl 1 rfl) ?_
  have hNm : (f_X12_startsText i) = (S_X12_saysView_2 i) := rfl
  have hCon := (c_X12_startsText l D A w α (k) mTaped mErr mPpl mBts mUs mRa mSt mKi mWd mVal mLet mFin mNp mNb mOuts mWant mFnd mTape mNum mNam mFst mBnm mW mUn mSl mKp mnNum mnNam mnBo mnBn i hB0)
  rw [hNm] at hCon
  refine g_aft0 (st1 := []) (g_V (As := [.int i]) (rest := []) S mi_X12_startsText qw1898 hCon hK hP hD hE hS (hB0 0 _ rfl) rfl rfl rfl hl.1 (Nat.le_of_ble_eq_true rfl) rfl rfl ⟨(Nat.le_of_ble_eq_true rfl), (Nat.le_of_ble_eq_true rfl)⟩ ⟨(Nat.le_of_ble_eq_true rfl), (Nat.le_of_ble_eq_true rfl)⟩ dX12_saysView_2) hS rfl (fun w1 H locs hQ hP hD hS => ?_)
  have hF := hF.trans hQ.2
  have hB0 : Blk w1 k (cM D α k mTaped mErr mPpl mBts mUs mRa mSt mKi mWd mVal mLet mFin mNp mNb ((S_X12_saysView_2 i).2.1) ((S_X12_saysView_2 i).2.2) ((S_X12_saysView_2 i).1) mTape mNum mNam mFst mBnm mW mUn mSl mKp mnNum mnNam mnBo mnBn) := hQ.1
  refine lv_iconst (v := 0) S.1 S.2.1 dX12_saysView_5 (by decide) ?_
  refine lv_istore_n (lv' := [(2, .int 0), (0, .ref (α (k))), (1, .int i)]) S.1 S.2.1 dX12_saysView_6 rfl hl (by decide) rfl (fun ls hl => ?_)
  have lp7 : ∀ (j n : Nat), n + j = mPpl.toNatClampNeg → ∀ (wl : va_W) (H : Heap) (locs : List Loc) (ls : Array Slot), va_P D vwCl wl H → va_D A wl → va_S A s.heap H locs → Same w wl k 14 → Blk wl k (cM D α k mTaped mErr mPpl mBts mUs mRa mSt mKi mWd mVal mLet mFin mNp mNb ((L_X12_saysView_7 mNam mW i n).2) ((S_X12_saysView_2 i).2.2) ((L_X12_saysView_7 mNam mW i n).1) mTape mNum mNam mFst mBnm mW mUn mSl mKp mnNum mnNam mnBo mnBn) → lv_has ls 3 [(2, .int (nI n)), (0, .ref (α (k))), (1, .int i)] → W pg l en ({ frames := 3, cells := 0, slots := 0, locals := 67 } : Room) s mi ar below me co H locs 0 0 (MQ below (gQ D A none (fun w1 => Blk w1 k (cM D α k mTaped mErr mPpl mBts mUs mRa mSt mKi mWd mVal mLet mFin mNp mNb ((f_X12_saysView mPpl mNam mW i).2.1) ((f_X12_saysView mPpl mNam mW i).2.2) ((f_X12_saysView mPpl mNam mW i).1) mTape mNum mNam mFst mBnm mW mUn mSl mKp mnNum mnNam mnBo mnBn) ∧ Same w w1 k 14)) ar s 0 0 A) (F0 mi 7 ls []) := by
    intro j
    induction j with
    | zero =>
      intro n hn wl H locs ls hP hD hS hF hB0 hl
      have hn : mPpl.toNatClampNeg = n := hn.symm
      subst hn
      refine lv_iload_n S.1 S.2.1 dX12_saysView_7 rfl (lv_at hl 0 rfl) ?_
      refine lv_aload_n S.1 S.2.1 dX12_saysView_8 rfl (lv_at hl 1 rfl) ?_
      refine g_get (v := .int mPpl) S hK hP (hB0 0 _ rfl) rfl inX12 4 (by decide) qw1378 rfl dX12_saysView_9 ?_
      refine lv_icmp_ge (tgt := 26) S.1 S.2.1 dX12_saysView_12 (by decide) (fun (c1 : mPpl ≤ (nI mPpl.toNatClampNeg)) => ?_) (fun (c1 : ¬ mPpl ≤ (nI mPpl.toNatClampNeg)) => absurd c1 (lp_out0 (rfl)))
      have hf : (f_X12_saysView mPpl mNam mW i) = ((L_X12_saysView_7 mNam mW i mPpl.toNatClampNeg).1, (L_X12_saysView_7 mNam mW i mPpl.toNatClampNeg).2, (S_X12_saysView_2 i).2.2) := rfl
      exact g_vret S hr hlk hP hD hS (rfl) (⟨by rw [hf]; dsimp only; exact hB0, hF⟩) dX12_saysView_26
    | succ j ih =>
      intro n hn wl H locs ls hP hD hS hF hB0 hl
      refine lv_iload_n S.1 S.2.1 dX12_saysView_7 rfl (lv_at hl 0 rfl) ?_
      refine lv_aload_n S.1 S.2.1 dX12_saysView_8 rfl (lv_at hl 1 rfl) ?_
      refine g_get (v := .int mPpl) S hK hP (hB0 0 _ rfl) rfl inX12 4 (by decide) qw1378 rfl dX12_saysView_9 ?_
      refine lv_icmp_ge (tgt := 26) S.1 S.2.1 dX12_saysView_12 (by decide) (fun (c2 : mPpl ≤ (nI n)) => absurd c2 (lp_in0 (rfl) hn)) (fun (c2 : ¬ mPpl ≤ (nI n)) => ?_)
      refine lv_aload_n S.1 S.2.1 dX12_saysView_15 rfl (lv_at hl 1 rfl) ?_
      refine lv_iload_n S.1 S.2.1 dX12_saysView_16 rfl (lv_at hl 0 rfl) ?_
      have hNm : (f_X12_saysPerson ((L_X12_saysView_7 mNam mW i n).2) ((S_X12_saysView_2 i).2.2) ((L_X12_saysView_7 mNam mW i n).1) mNam mW (nI n)) = (S_X12_saysView_17 mNam mW i n (L_X12_saysView_7 mNam mW i n)) := rfl
      have hCon := (c_X12_saysPerson l D A wl α (k) mTaped mErr mPpl mBts mUs mRa mSt mKi mWd mVal mLet mFin mNp mNb ((L_X12_saysView_7 mNam mW i n).2) ((S_X12_saysView_2 i).2.2) ((L_X12_saysView_7 mNam mW i n).1) mTape mNum mNam mFst mBnm mW mUn mSl mKp mnNum mnNam mnBo mnBn (nI n) hB0 (by first | assumption | exact vin_d (by decide) | exact vp_in_nI (by omega) (by decide) | decide | omega) (by first | assumption | exact vin_d (by decide) | exact vp_in_nI (by omega) (by decide) | decide | omega))
      rw [hNm] at hCon
      refine g_aft0 (st1 := []) (g_V (As := [.int (nI n)]) (rest := []) S mi_X12_saysPerson qw1902 hCon hK hP hD hE hS (hB0 0 _ rfl) rfl rfl rfl hl.1 (Nat.le_of_ble_eq_true rfl) rfl rfl ⟨(Nat.le_of_ble_eq_true rfl), (Nat.le_of_ble_eq_true rfl)⟩ ⟨(Nat.le_of_ble_eq_true rfl), (Nat.le_of_ble_eq_true rfl)⟩ dX12_saysView_17) hS rfl (fun w2 H locs hQ hP hD hS => ?_)
      have hF := hF.trans hQ.2
      have hB0 : Blk w2 k (cM D α k mTaped mErr mPpl mBts mUs mRa mSt mKi mWd mVal mLet mFin mNp mNb ((S_X12_saysView_17 mNam mW i n (L_X12_saysView_7 mNam mW i n)).2) ((S_X12_saysView_2 i).2.2) ((S_X12_saysView_17 mNam mW i n (L_X12_saysView_7 mNam mW i n)).1) mTape mNum mNam mFst mBnm mW mUn mSl mKp mnNum mnNam mnBo mnBn) := hQ.1
      refine lv_iinc (v := (nI (n + 1))) (lv' := [(2, .int (nI (n + 1))), (0, .ref (α (k))), (1, .int i)]) S.1 S.2.1 dX12_saysView_20 hl (k := 0) rfl ((nI_succ n).symm) (by decide) rfl (fun ls hl => ?_)
      refine lv_goto (tgt := 7) S.1 S.2.1 dX12_saysView_23 (by decide) ?_
      have hL : (L_X12_saysView_7 mNam mW i (n + 1)) = ((S_X12_saysView_17 mNam mW i n (L_X12_saysView_7 mNam mW i n)).1, (S_X12_saysView_17 mNam mW i n (L_X12_saysView_7 mNam mW i n)).2) := (iter_s _ _ _).trans (show (G_X12_saysView_7 mNam mW i n (L_X12_saysView_7 mNam mW i n)) = ((S_X12_saysView_17 mNam mW i n (L_X12_saysView_7 mNam mW i n)).1, (S_X12_saysView_17 mNam mW i n (L_X12_saysView_7 mNam mW i n)).2) from rfl)
      refine ih (n + 1) (lp_n hn) _ _ _ _ hP hD hS hF ?_ ?_
      · rw [hL]; (try dsimp only); exact hB0
      · exact lv_sub hl [0, 1, 2] rfl
  have hL0 : (L_X12_saysView_7 mNam mW i 0) = ((S_X12_saysView_2 i).1, (S_X12_saysView_2 i).2.1) := iter_z _ _
  exact lp7 mPpl.toNatClampNeg 0 (Nat.zero_add mPpl.toNatClampNeg) _ _ _ _ hP hD hS hF (by rw [hL0]; exact hB0) (lv_sub hl [0, 1, 2] rfl)
noncomputable def S_X12_viewLength_2 (mPpl : Int32) (mNam : Nat → Int32) (mW : Nat → Int32) : Int32 × Int32 × Int32 := (f_X12_saysView mPpl mNam mW (-1))
noncomputable def f_X12_viewLength (mPpl : Int32) (mNam : Nat → Int32) (mW : Nat → Int32) : Int32 × Int32 × Int32 × Int32 := ((S_X12_viewLength_2 mPpl mNam mW).2.1, (S_X12_viewLength_2 mPpl mNam mW).1, (S_X12_viewLength_2 mPpl mNam mW).2.1, (S_X12_viewLength_2 mPpl mNam mW).2.2)
set_option maxHeartbeats 4000000 in
set_option maxRecDepth 100000 in
theorem c_X12_viewLength (l : Launch) (D : va_G) (A : Nat → Prop) (w : va_W) (α : Nat → Nat) (k : Nat) (mTaped : Int32) (mErr : Int32) (mPpl : Int32) (mBts : Int32) (mUs : Int32) (mRa : Int32) (mSt : Int32) (mKi : Int32) (mWd : Int64) (mVal : Int32) (mLet : Int32) (mFin : Int32) (mNp : Int32) (mNb : Int32) (mOuts : Int32) (mWant : Int32) (mFnd : Int32) (mTape : Nat → Int32) (mNum : Nat → Int32) (mNam : Nat → Int32) (mFst : Nat → Int32) (mBnm : Nat → Int32) (mW : Nat → Int32) (mUn : Nat → Int32) (mSl : Nat → Int32) (mKp : Nat → Int32) (mnNum : Nat → Int32) (mnNam : Nat → Int32) (mnBo : Nat → Int32) (mnBn : Nat → Int32) (hB0 : Blk w k (cM D α k mTaped mErr mPpl mBts mUs mRa mSt mKi mWd mVal mLet mFin mNp mNb mOuts mWant mFnd mTape mNum mNam mFst mBnm mW mUn mSl mKp mnNum mnNam mnBo mnBn)) (hy0 : vp_in mPpl 21) (hy1 : ∀ q, vp_in q 20 → ¬ f_X12_of mW q 6 < 0 → vp_in (f_X12_of mW q 6) 20) : Met l yX12_viewLength (ws_ yX12_viewLength cX12_viewLength 1 (some .int)) ({ frames := 4, cells := 0, slots := 0, locals := 89 }) (gPre D A [.ref (α (k))] w) (gQ D A (some (.int (f_X12_viewLength mPpl mNam mW).1)) (fun w1 => Blk w1 k (cM D α k mTaped mErr mPpl mBts mUs mRa mSt mKi mWd mVal mLet mFin mNp mNb ((f_X12_viewLength mPpl mNam mW).2.2.1) ((f_X12_viewLength mPpl mNam mW).2.2.2) ((f_X12_viewLength mPpl mNam mW).2.1) mTape mNum mNam mFst mBnm mW mUn mSl mKp mnNum mnNam mnBo mnBn) ∧ Same w w1 k 14)) 0 0 A := by
  refine g_met [(0, .ref (α (k)))] (plainFor_of_name (by decide)) (Nat.le_of_ble_eq_true rfl) rfl (fun pg en s mi ar below me co ls S hK hP hD hE hS hr hlk hnm hl => ?_)
  have hF : Same w w k 14 := Same.rf
  refine lv_aload_n S.1 S.2.1 dX12_viewLength_0 rfl (lv_at hl 0 rfl) ?_
  refine lv_iconst (v := (-1)) S.1 S.2.1 dX12_viewLength_1 (by decide) ?_
  have hNm : (f_X12_saysView mPpl mNam mW (-1)) = (S_X12_viewLength_2 mPpl mNam mW) := rfl
  have hCon := (c_X12_saysView l D A w α (k) mTaped mErr mPpl mBts mUs mRa mSt mKi mWd mVal mLet mFin mNp mNb mOuts mWant mFnd mTape mNum mNam mFst mBnm mW mUn mSl mKp mnNum mnNam mnBo mnBn (-1) hB0 (by first | assumption | exact vin_d (by decide) | exact vp_in_nI (by omega) (by decide) | decide | omega) (by first | assumption | exact vin_d (by decide) | exact vp_in_nI (by omega) (by decide) | decide | omega))
  rw [hNm] at hCon
  refine g_aft0 (st1 := []) (g_V (As := [.int (-1)]) (rest := []) S mi_X12_saysView qw1894 hCon hK hP hD hE hS (hB0 0 _ rfl) rfl rfl rfl hl.1 (Nat.le_of_ble_eq_true rfl) rfl rfl ⟨(Nat.le_of_ble_eq_true rfl), (Nat.le_of_ble_eq_true rfl)⟩ ⟨(Nat.le_of_ble_eq_true rfl), (Nat.le_of_ble_eq_true rfl)⟩ dX12_viewLength_2) hS rfl (fun w1 H locs hQ hP hD hS => ?_)
  have hF := hF.trans hQ.2
  have hB0 : Blk w1 k (cM D α k mTaped mErr mPpl mBts mUs mRa mSt mKi mWd mVal mLet mFin mNp mNb ((S_X12_viewLength_2 mPpl mNam mW).2.1) ((S_X12_viewLength_2 mPpl mNam mW).2.2) ((S_X12_viewLength_2 mPpl mNam mW).1) mTape mNum mNam mFst mBnm mW mUn mSl mKp mnNum mnNam mnBo mnBn) := hQ.1
  refine lv_aload_n S.1 S.2.1 dX12_viewLength_5 rfl (lv_at hl 0 rfl) ?_
  refine g_get (v := .int ((S_X12_viewLength_2 mPpl mNam mW).2.1)) S hK hP (hB0 0 _ rfl) rfl inX12 27 (by decide) qw1401 rfl dX12_viewLength_6 ?_
  have hf : (f_X12_viewLength mPpl mNam mW) = ((S_X12_viewLength_2 mPpl mNam mW).2.1, (S_X12_viewLength_2 mPpl mNam mW).1, (S_X12_viewLength_2 mPpl mNam mW).2.1, (S_X12_viewLength_2 mPpl mNam mW).2.2) := rfl
  exact g_iret S hr hlk hP hD hS (by rw [hf] <;> rfl) (⟨by rw [hf]; dsimp only; exact hB0, hF⟩) dX12_viewLength_9
noncomputable def S_X12_viewByte_8 (mPpl : Int32) (mNam : Nat → Int32) (mW : Nat → Int32) (i : Int32) : Int32 × Int32 × Int32 := (f_X12_saysView mPpl mNam mW i)
noncomputable def f_X12_viewByte (mPpl : Int32) (mOuts : Int32) (mWant : Int32) (mFnd : Int32) (mNam : Nat → Int32) (mW : Nat → Int32) (i : Int32) : Int32 × Int32 × Int32 × Int32 := (if 0 ≤ i then ((S_X12_viewByte_8 mPpl mNam mW i).1, (S_X12_viewByte_8 mPpl mNam mW i).1, (S_X12_viewByte_8 mPpl mNam mW i).2.1, (S_X12_viewByte_8 mPpl mNam mW i).2.2) else ((-1), mFnd, mOuts, mWant))
set_option maxHeartbeats 4000000 in
set_option maxRecDepth 100000 in
theorem c_X12_viewByte (l : Launch) (D : va_G) (A : Nat → Prop) (w : va_W) (α : Nat → Nat) (k : Nat) (mTaped : Int32) (mErr : Int32) (mPpl : Int32) (mBts : Int32) (mUs : Int32) (mRa : Int32) (mSt : Int32) (mKi : Int32) (mWd : Int64) (mVal : Int32) (mLet : Int32) (mFin : Int32) (mNp : Int32) (mNb : Int32) (mOuts : Int32) (mWant : Int32) (mFnd : Int32) (mTape : Nat → Int32) (mNum : Nat → Int32) (mNam : Nat → Int32) (mFst : Nat → Int32) (mBnm : Nat → Int32) (mW : Nat → Int32) (mUn : Nat → Int32) (mSl : Nat → Int32) (mKp : Nat → Int32) (mnNum : Nat → Int32) (mnNam : Nat → Int32) (mnBo : Nat → Int32) (mnBn : Nat → Int32) (i : Int32) (hB0 : Blk w k (cM D α k mTaped mErr mPpl mBts mUs mRa mSt mKi mWd mVal mLet mFin mNp mNb mOuts mWant mFnd mTape mNum mNam mFst mBnm mW mUn mSl mKp mnNum mnNam mnBo mnBn)) (hy0 : vp_in mPpl 21) (hy1 : ∀ q, vp_in q 20 → ¬ f_X12_of mW q 6 < 0 → vp_in (f_X12_of mW q 6) 20) : Met l yX12_viewByte (ws_ yX12_viewByte cX12_viewByte 2 (some .int)) ({ frames := 4, cells := 0, slots := 0, locals := 89 }) (gPre D A [.ref (α (k)), .int i] w) (gQ D A (some (.int (f_X12_viewByte mPpl mOuts mWant mFnd mNam mW i).1)) (fun w1 => Blk w1 k (cM D α k mTaped mErr mPpl mBts mUs mRa mSt mKi mWd mVal mLet mFin mNp mNb ((f_X12_viewByte mPpl mOuts mWant mFnd mNam mW i).2.2.1) ((f_X12_viewByte mPpl mOuts mWant mFnd mNam mW i).2.2.2) ((f_X12_viewByte mPpl mOuts mWant mFnd mNam mW i).2.1) mTape mNum mNam mFst mBnm mW mUn mSl mKp mnNum mnNam mnBo mnBn) ∧ Same w w1 k 14)) 0 0 A := by
  refine g_met [(0, .ref (α (k))), (1, .int i)] (plainFor_of_name (by decide)) (Nat.le_of_ble_eq_true rfl) rfl (fun pg en s mi ar below me co ls S hK hP hD hE hS hr hlk hnm hl => ?_)
  have hF : Same w w k 14 := Same.rf
  refine lv_iload_n S.1 S.2.1 dX12_viewByte_0 rfl (lv_at hl 1 rfl) ?_
  refine lv_if_ge (tgt := 6) S.1 S.2.1 dX12_viewByte_1 (by decide) (fun (c1 : 0 ≤ i) => ?_) (fun (c1 : ¬ 0 ≤ i) => ?_)
  · refine lv_aload_n S.1 S.2.1 dX12_viewByte_6 rfl (lv_at hl 0 rfl) ?_
    refine lv_iload_n S.1 S.2.1 dX12_viewByte_7 rfl (lv_at hl 1 rfl) ?_
    have hNm : (f_X12_saysView mPpl mNam mW i) = (S_X12_viewByte_8 mPpl mNam mW i) := rfl
    have hCon := (c_X12_saysView l D A w α (k) mTaped mErr mPpl mBts mUs mRa mSt mKi mWd mVal mLet mFin mNp mNb mOuts mWant mFnd mTape mNum mNam mFst mBnm mW mUn mSl mKp mnNum mnNam mnBo mnBn i hB0 (by first | assumption | exact vin_d (by decide) | exact vp_in_nI (by omega) (by decide) | decide | omega) (by first | assumption | exact vin_d (by decide) | exact vp_in_nI (by omega) (by decide) | decide | omega))
    rw [hNm] at hCon
    refine g_aft0 (st1 := []) (g_V (As := [.int i]) (rest := []) S mi_X12_saysView qw1894 hCon hK hP hD hE hS (hB0 0 _ rfl) rfl rfl rfl hl.1 (Nat.le_of_ble_eq_true rfl) rfl rfl ⟨(Nat.le_of_ble_eq_true rfl), (Nat.le_of_ble_eq_true rfl)⟩ ⟨(Nat.le_of_ble_eq_true rfl), (Nat.le_of_ble_eq_true rfl)⟩ dX12_viewByte_8) hS rfl (fun w1 H locs hQ hP hD hS => ?_)
    have hF := hF.trans hQ.2
    have hB0 : Blk w1 k (cM D α k mTaped mErr mPpl mBts mUs mRa mSt mKi mWd mVal mLet mFin mNp mNb ((S_X12_viewByte_8 mPpl mNam mW i).2.1) ((S_X12_viewByte_8 mPpl mNam mW i).2.2) ((S_X12_viewByte_8 mPpl mNam mW i).1) mTape mNum mNam mFst mBnm mW mUn mSl mKp mnNum mnNam mnBo mnBn) := hQ.1
    refine lv_aload_n S.1 S.2.1 dX12_viewByte_11 rfl (lv_at hl 0 rfl) ?_
    refine g_get (v := .int ((S_X12_viewByte_8 mPpl mNam mW i).1)) S hK hP (hB0 0 _ rfl) rfl inX12 29 (by decide) qw1403 rfl dX12_viewByte_12 ?_
    have hf : (f_X12_viewByte mPpl mOuts mWant mFnd mNam mW i) = ((S_X12_viewByte_8 mPpl mNam mW i).1, (S_X12_viewByte_8 mPpl mNam mW i).1, (S_X12_viewByte_8 mPpl mNam mW i).2.1, (S_X12_viewByte_8 mPpl mNam mW i).2.2) := if_pos c1
    exact g_iret S hr hlk hP hD hS (by rw [hf] <;> rfl) (⟨by rw [hf]; dsimp only; exact hB0, hF⟩) dX12_viewByte_15
  · refine lv_iconst (v := (-1)) S.1 S.2.1 dX12_viewByte_4 (by decide) ?_
    have hf : (f_X12_viewByte mPpl mOuts mWant mFnd mNam mW i) = ((-1), mFnd, mOuts, mWant) := if_neg c1
    exact g_iret S hr hlk hP hD hS (by rw [hf] <;> rfl) (⟨by rw [hf]; dsimp only; exact hB0, hF⟩) dX12_viewByte_5
