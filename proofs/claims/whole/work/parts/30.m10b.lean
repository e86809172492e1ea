def T_X12_next_0 (mTaped : Int32) (mTape : Nat → Int32) (sw0 : Int32) : Sum (Int32) (Int32) := (if mTaped ≤ sw0 then (.inr sw0) else (if (mTape sw0.toNatClampNeg) = 32 then (.inl (sw0 + 1)) else (if (mTape sw0.toNatClampNeg) = 10 then (.inl (sw0 + 1)) else (.inr sw0))))
def X_X12_next_0 (mTaped : Int32) (mRa : Int32) (mTape : Nat → Int32) : Int32 := whl_ ((T_X12_next_0 mTaped mTape)) 801 mRa
def J_X12_next_127 (mTaped : Int32) (mRa : Int32) (mTape : Nat → Int32) : Int32 := (if (mTape (X_X12_next_0 mTaped mRa mTape).toNatClampNeg) = 59 then 4 else 5)
def S_X12_next_109 (mTaped : Int32) (mRa : Int32) (mTape : Nat → Int32) : Int32 × Int32 × Int32 := (f_X12_nextInt mTaped (X_X12_next_0 mTaped mRa mTape) (X_X12_next_0 mTaped mRa mTape) mTape)
def S_X12_next_91 (mTaped : Int32) (mRa : Int32) (mTape : Nat → Int32) : Int32 × Int32 × Int32 × Int64 := (f_X12_nextWord mTaped (X_X12_next_0 mTaped mRa mTape) (X_X12_next_0 mTaped mRa mTape) mTape)
def f_X12_next (mTaped : Int32) (mRa : Int32) (mWd : Int64) (mVal : Int32) (mLet : Int32) (mTape : Nat → Int32) : Int32 × Int32 × Int32 × Int32 × Int32 × Int64 := (if (X_X12_next_0 mTaped mRa mTape) = mTaped then (0, mLet, (X_X12_next_0 mTaped mRa mTape), (X_X12_next_0 mTaped mRa mTape), mVal, mWd) else (bif (f_X12_isByte mTaped (X_X12_next_0 mTaped mRa mTape) mTape 97 122) then ((S_X12_next_91 mTaped mRa mTape).1, (S_X12_next_91 mTaped mRa mTape).2.1, (S_X12_next_91 mTaped mRa mTape).2.2.1, (X_X12_next_0 mTaped mRa mTape), mVal, (S_X12_next_91 mTaped mRa mTape).2.2.2) else (bif (f_X12_isByte mTaped (X_X12_next_0 mTaped mRa mTape) mTape 48 57) then ((S_X12_next_109 mTaped mRa mTape).1, mLet, (S_X12_next_109 mTaped mRa mTape).2.1, (X_X12_next_0 mTaped mRa mTape), (S_X12_next_109 mTaped mRa mTape).2.2, mWd) else ((J_X12_next_127 mTaped mRa mTape), mLet, ((X_X12_next_0 mTaped mRa mTape) + 1), (X_X12_next_0 mTaped mRa mTape), mVal, mWd))))
set_option maxHeartbeats 4000000 in
set_option maxRecDepth 100000 in
theorem c_X12_next (l : Launch) (D : va_G) (A : Nat → Prop) (w : va_W) (α : Nat → Nat) (k : Nat) (mTaped : Int32) (mErr : Int32) (mPpl : Int32) (mBts : Int32) (mUs : Int32) (mRa : Int32) (mSt : Int32) (mKi : Int32) (mWd : Int64) (mVal : Int32) (mLet : Int32) (mFin : Int32) (mNp : Int32) (mNb : Int32) (mOuts : Int32) (mWant : Int32) (mFnd : Int32) (mTape : Nat → Int32) (mNum : Nat → Int32) (mNam : Nat → Int32) (mFst : Nat → Int32) (mBnm : Nat → Int32) (mW : Nat → Int32) (mUn : Nat → Int32) (mSl : Nat → Int32) (mKp : Nat → Int32) (mnNum : Nat → Int32) (mnNam : Nat → Int32) (mnBo : Nat → Int32) (mnBn : Nat → Int32) (hB0 : Blk w k (cM D α k mTaped mErr mPpl mBts mUs mRa mSt mKi mWd mVal mLet mFin mNp mNb mOuts mWant mFnd mTape mNum mNam mFst mBnm mW mUn mSl mKp mnNum mnNam mnBo mnBn)) (hy0 : rd_ mRa mTaped) : Met l yX12_next (ws_ yX12_next cX12_next 1 none) ({ frames := 2, cells := 0, slots := 0, locals := 44 }) (gPre D A [.ref (α (k))] w) (gQ D A none (fun w1 => Blk w1 k (cM D α k mTaped mErr mPpl mBts mUs ((f_X12_next mTaped mRa mWd mVal mLet mTape).2.2.1) ((f_X12_next mTaped mRa mWd mVal mLet mTape).2.2.2.1) ((f_X12_next mTaped mRa mWd mVal mLet mTape).1) ((f_X12_next mTaped mRa mWd mVal mLet mTape).2.2.2.2.2) ((f_X12_next mTaped mRa mWd mVal mLet mTape).2.2.2.2.1) ((f_X12_next mTaped mRa mWd mVal mLet mTape).2.1) mFin mNp mNb mOuts mWant mFnd mTape mNum mNam mFst mBnm mW mUn mSl mKp mnNum mnNam mnBo mnBn) ∧ Same w w1 k 14 ∧ (rd_ (f_X12_next mTaped mRa mWd mVal mLet mTape).2.2.1 mTaped))) 0 0 A := by
  refine g_met [(0, .ref (α (k)))] (plainFor_of_name (by decide)) (Nat.le_of_ble_eq_true rfl) rfl (fun pg en s mi ar below me co ls S hK hP hD hE hS hr hlk hnm hl => ?_)
  have hF : Same w w k 14 := Same.rf
  have jw0 : (rd_ (X_X12_next_0 mTaped mRa mTape) mTaped) → ∀ (wl : va_W) (H : Heap) (locs : List Loc) (ls : Array Slot), va_P D vwCl wl H → va_D A wl → va_S A s.heap H locs → Same w wl k 14 → Blk wl k (cM D α k mTaped mErr mPpl mBts mUs (X_X12_next_0 mTaped mRa mTape) mSt mKi mWd mVal mLet mFin mNp mNb mOuts mWant mFnd mTape mNum mNam mFst mBnm mW mUn mSl mKp mnNum mnNam mnBo mnBn) → lv_has ls 1 [(0, .ref (α (k)))] → W pg l en ({ frames := 2, cells := 0, slots := 0, locals := 44 } : Room) s mi ar below me co H locs 0 0 (MQ below (gQ D A none (fun w1 => Blk w1 k (cM D α k mTaped mErr mPpl mBts mUs ((f_X12_next mTaped mRa mWd mVal mLet mTape).2.2.1) ((f_X12_next mTaped mRa mWd mVal mLet mTape).2.2.2.1) ((f_X12_next mTaped mRa mWd mVal mLet mTape).1) ((f_X12_next mTaped mRa mWd mVal mLet mTape).2.2.2.2.2) ((f_X12_next mTaped mRa mWd mVal mLet mTape).2.2.2.2.1) ((f_X12_next mTaped mRa mWd mVal mLet mTape).2.1) mFin mNp mNb mOuts mWant mFnd mTape mNum mNam mFst mBnm mW mUn mSl mKp mnNum mnNam mnBo mnBn) ∧ Same w w1 k 14 ∧ (rd_ (f_X12_next mTaped mRa mWd mVal mLet mTape).2.2.1 mTaped))) ar s 0 0 A) (F0 mi 52 ls []) := by
    intro hpo wl H locs ls hP hD hS hF hB0 hl
    refine lv_aload_n S.1 S.2.1 dX12_next_52 rfl (lv_at hl 0 rfl) ?_
    refine lv_aload_n S.1 S.2.1 dX12_next_53 rfl (lv_at hl 0 rfl) ?_
    refine g_get (v := .int (X_X12_next_0 mTaped mRa mTape)) S hK hP (hB0 0 _ rfl) rfl inX12 14 (by decide) qw1388 rfl dX12_next_54 ?_
    refine g_put S hK hP hD hS (hB0 0 _ rfl) rfl inX12 tyX12_ok nmX12 15 (by decide) qw1389 rfl rfl rfl (Nat.le_of_ble_eq_true rfl) dX12_next_57 (fun w1 H locs hw hP hD hS => ?_)
    have hF := Same.set hF 0 hw (by decide)
    have hB0 : Blk w1 k (cM D α k mTaped mErr mPpl mBts mUs (X_X12_next_0 mTaped mRa mTape) (X_X12_next_0 mTaped mRa mTape) mKi mWd mVal mLet mFin mNp mNb mOuts mWant mFnd mTape mNum mNam mFst mBnm mW mUn mSl mKp mnNum mnNam mnBo mnBn) := hB0.set 0 hw (Nat.le_of_ble_eq_true rfl) rfl
    refine lv_aload_n S.1 S.2.1 dX12_next_60 rfl (lv_at hl 0 rfl) ?_
    refine g_get (v := .int (X_X12_next_0 mTaped mRa mTape)) S hK hP (hB0 0 _ rfl) rfl inX12 14 (by decide) qw1388 rfl dX12_next_61 ?_
    refine lv_aload_n S.1 S.2.1 dX12_next_64 rfl (lv_at hl 0 rfl) ?_
    refine g_get (v := .int mTaped) S hK hP (hB0 0 _ rfl) rfl inX12 1 (by decide) qw1375 rfl dX12_next_65 ?_
    refine lv_icmp_ne (tgt := 79) S.1 S.2.1 dX12_next_68 (by decide) (fun (c1 : ¬ (X_X12_next_0 mTaped mRa mTape) = mTaped) => ?_) (fun (c1 : (X_X12_next_0 mTaped mRa mTape) = mTaped) => ?_)
    · refine lv_aload_n S.1 S.2.1 dX12_next_79 rfl (lv_at hl 0 rfl) ?_
      refine lv_bipush (v := 97) S.1 S.2.1 dX12_next_80 (by decide) ?_
      refine lv_bipush (v := 122) S.1 S.2.1 dX12_next_82 (by decide) ?_
      refine g_aftR0 (st1 := [.int (b2i (f_X12_isByte mTaped (X_X12_next_0 mTaped mRa mTape) mTape 97 122))]) (g_V (As := [.int 97, .int 122]) (rest := []) S mi_X12_isByte qw1492 (c_X12_isByte l D A w1 α (k) mTaped mErr mPpl mBts mUs (X_X12_next_0 mTaped mRa mTape) (X_X12_next_0 mTaped mRa mTape) mKi mWd mVal mLet mFin mNp mNb mOuts mWant mFnd mTape mNum mNam mFst mBnm mW mUn mSl mKp mnNum mnNam mnBo mnBn 97 122 hB0 (by exact hpo)) hK hP hD hE hS (hB0 0 _ rfl) rfl rfl rfl hl.1 (Nat.le_of_ble_eq_true rfl) rfl rfl ⟨(Nat.le_of_ble_eq_true rfl), (Nat.le_of_ble_eq_true rfl)⟩ ⟨(Nat.le_of_ble_eq_true rfl), (Nat.le_of_ble_eq_true rfl)⟩ dX12_next_84) hS rfl (fun locs hS => ?_)
      refine g_bifeq (b := (f_X12_isByte mTaped (X_X12_next_0 mTaped mRa mTape) mTape 97 122)) (tgt := 97) S dX12_next_87 (by decide) (fun (c2 : (f_X12_isByte mTaped (X_X12_next_0 mTaped mRa mTape) mTape 97 122) = false) => ?_) (fun (c2 : (f_X12_isByte mTaped (X_X12_next_0 mTaped mRa mTape) mTape 97 122) = true) => ?_)
      · refine lv_aload_n S.1 S.2.1 dX12_next_97 rfl (lv_at hl 0 rfl) ?_
        refine lv_bipush (v := 48) S.1 S.2.1 dX12_next_98 (by decide) ?_
        refine lv_bipush (v := 57) S.1 S.2.1 dX12_next_100 (by decide) ?_
        refine g_aftR0 (st1 := [.int (b2i (f_X12_isByte mTaped (X_X12_next_0 mTaped mRa mTape) mTape 48 57))]) (g_V (As := [.int 48, .int 57]) (rest := []) S mi_X12_isByte qw1492 (c_X12_isByte l D A w1 α (k) mTaped mErr mPpl mBts mUs (X_X12_next_0 mTaped mRa mTape) (X_X12_next_0 mTaped mRa mTape) mKi mWd mVal mLet mFin mNp mNb mOuts mWant mFnd mTape mNum mNam mFst mBnm mW mUn mSl mKp mnNum mnNam mnBo mnBn 48 57 hB0 (by exact hpo)) hK hP hD hE hS (hB0 0 _ rfl) rfl rfl rfl hl.1 (Nat.le_of_ble_eq_true rfl) rfl rfl ⟨(Nat.le_of_ble_eq_true rfl), (Nat.le_of_ble_eq_true rfl)⟩ ⟨(Nat.le_of_ble_eq_true rfl), (Nat.le_of_ble_eq_true rfl)⟩ dX12_next_102) hS rfl (fun locs hS => ?_)
        refine g_bifeq (b := (f_X12_isByte mTaped (X_X12_next_0 mTaped mRa mTape) mTape 48 57)) (tgt := 115) S dX12_next_105 (by decide) (fun (c3 : (f_X12_isByte mTaped (X_X12_next_0 mTaped mRa mTape) mTape 48 57) = false) => ?_) (fun (c3 : (f_X12_isByte mTaped (X_X12_next_0 mTaped mRa mTape) mTape 48 57) = true) => ?_)
        · refine lv_aload_n S.1 S.2.1 dX12_next_115 rfl (lv_at hl 0 rfl) ?_
          refine lv_aload_n S.1 S.2.1 dX12_next_116 rfl (lv_at hl 0 rfl) ?_
          refine g_get (v := .ref (α (k + 1))) S hK hP (hB0 0 _ rfl) rfl inX12 0 (by decide) qw1374 rfl dX12_next_117 ?_
          refine lv_aload_n S.1 S.2.1 dX12_next_120 rfl (lv_at hl 0 rfl) ?_
          refine g_get (v := .int (X_X12_next_0 mTaped mRa mTape)) S hK hP (hB0 0 _ rfl) rfl inX12 14 (by decide) qw1388 rfl dX12_next_121 ?_
          refine g_bald S hK hP (hB0 1 _ rfl) (rd_in hpo (rd_ne hpo (by assumption))) dX12_next_124 ?_
          refine lv_bipush (v := 59) S.1 S.2.1 dX12_next_125 (by decide) ?_
          have jn127 : ∀ (wl : va_W) (H : Heap) (locs : List Loc) (ls : Array Slot), va_P D vwCl wl H → va_D A wl → va_S A s.heap H locs → Same w wl k 14 → Blk wl k (cM D α k mTaped mErr mPpl mBts mUs (X_X12_next_0 mTaped mRa mTape) (X_X12_next_0 mTaped mRa mTape) mKi mWd mVal mLet mFin mNp mNb mOuts mWant mFnd mTape mNum mNam mFst mBnm mW mUn mSl mKp mnNum mnNam mnBo mnBn) → lv_has ls 1 [(0, .ref (α (k)))] → W pg l en ({ frames := 2, cells := 0, slots := 0, locals := 44 } : Room) s mi ar below me co H locs 0 0 (MQ below (gQ D A none (fun w1 => Blk w1 k (cM D α k mTaped mErr mPpl mBts mUs ((f_X12_next mTaped mRa mWd mVal mLet mTape).2.2.1) ((f_X12_next mTaped mRa mWd mVal mLet mTape).2.2.2.1) ((f_X12_next mTaped mRa mWd mVal mLet mTape).1) ((f_X12_next mTaped mRa mWd mVal mLet mTape).2.2.2.2.2) ((f_X12_next mTaped mRa mWd mVal mLet mTape).2.2.2.2.1) ((f_X12_next mTaped mRa mWd mVal mLet mTape).2.1) mFin mNp mNb mOuts mWant mFnd mTape mNum mNam mFst mBnm mW mUn mSl mKp mnNum mnNam mnBo mnBn) ∧ Same w w1 k 14 ∧ (rd_ (f_X12_next mTaped mRa mWd mVal mLet mTape).2.2.1 mTaped))) ar s 0 0 A) (F0 mi 135 ls [.int (J_X12_next_127 mTaped mRa mTape), .ref (α (k))]) := by
            intro wl H locs ls hP hD hS hF hB0 hl
            refine g_put S hK hP hD hS (hB0 0 _ rfl) rfl inX12 tyX12_ok nmX12 16 (by decide) qw1390 rfl rfl rfl (Nat.le_of_ble_eq_true rfl) dX12_next_135 (fun w2 H locs hw hP hD hS => ?_)
            have hF := Same.set hF 0 hw (by decide)
            have hB0 : Blk w2 k (cM D α k mTaped mErr mPpl mBts mUs (X_X12_next_0 mTaped mRa mTape) (X_X12_next_0 mTaped mRa mTape) (J_X12_next_127 mTaped mRa mTape) mWd mVal mLet mFin mNp mNb mOuts mWant mFnd mTape mNum mNam mFst mBnm mW mUn mSl mKp mnNum mnNam mnBo mnBn) := hB0.set 0 hw (Nat.le_of_ble_eq_true rfl) rfl
            refine lv_aload_n S.1 S.2.1 dX12_next_138 rfl (lv_at hl 0 rfl) ?_
            refine lv_dup S.1 S.2.1 dX12_next_139 rfl ?_
            refine g_get (v := .int (X_X12_next_0 mTaped mRa mTape)) S hK hP (hB0 0 _ rfl) rfl inX12 14 (by decide) qw1388 rfl dX12_next_140 ?_
            refine lv_iconst (v := 1) S.1 S.2.1 dX12_next_143 (by decide) ?_
            refine lv_iadd S.1 S.2.1 dX12_next_144 ?_
            refine g_put S hK hP hD hS (hB0 0 _ rfl) rfl inX12 tyX12_ok nmX12 14 (by decide) qw1388 rfl rfl rfl (Nat.le_of_ble_eq_true rfl) dX12_next_145 (fun w3 H locs hw hP hD hS => ?_)
            have hF := Same.set hF 0 hw (by decide)
            have hB0 : Blk w3 k (cM D α k mTaped mErr mPpl mBts mUs ((X_X12_next_0 mTaped mRa mTape) + 1) (X_X12_next_0 mTaped mRa mTape) (J_X12_next_127 mTaped mRa mTape) mWd mVal mLet mFin mNp mNb mOuts mWant mFnd mTape mNum mNam mFst mBnm mW mUn mSl mKp mnNum mnNam mnBo mnBn) := hB0.set 0 hw (Nat.le_of_ble_eq_true rfl) rfl
            have hf : (f_X12_next mTaped mRa mWd mVal mLet mTape) = ((J_X12_next_127 mTaped mRa mTape), mLet, ((X_X12_next_0 mTaped mRa mTape) + 1), (X_X12_next_0 mTaped mRa mTape), mVal, mWd) := (if_neg c1).trans ((cd_f c2).trans (cd_f c3))
            exact g_vret S hr hlk hP hD hS (rfl) (⟨by rw [hf]; exact hB0, hF, by rw [hf]; exact rd_s hpo (rd_ne hpo (by assumption))⟩) dX12_next_148
          refine lv_icmp_ne (tgt := 134) S.1 S.2.1 dX12_next_127 (by decide) (fun (c4 : ¬ (mTape (X_X12_next_0 mTaped mRa mTape).toNatClampNeg) = 59) => ?_) (fun (c4 : (mTape (X_X12_next_0 mTaped mRa mTape).toNatClampNeg) = 59) => ?_)
          · refine lv_iconst (v := 5) S.1 S.2.1 dX12_next_134 (by decide) ?_
            have hJ : (J_X12_next_127 mTaped mRa mTape) = 5 := if_neg c4
            have qj := jn127
            rw [hJ] at qj
            exact qj _ _ _ _ hP hD hS hF hB0 (lv_sub hl [0] rfl)
          · refine lv_iconst (v := 4) S.1 S.2.1 dX12_next_130 (by decide) ?_
            refine lv_goto (tgt := 135) S.1 S.2.1 dX12_next_131 (by decide) ?_
            have hJ : (J_X12_next_127 mTaped mRa mTape) = 4 := if_pos c4
            have qj := jn127
            rw [hJ] at qj
            exact qj _ _ _ _ hP hD hS hF hB0 (lv_sub hl [0] rfl)
        · refine lv_aload_n S.1 S.2.1 dX12_next_108 rfl (lv_at hl 0 rfl) ?_
          refine g_aft0 (st1 := []) (g_V (As := []) (rest := []) S mi_X12_nextInt qw1514 (c_X12_nextInt l D A w1 α (k) mTaped mErr mPpl mBts mUs (X_X12_next_0 mTaped mRa mTape) (X_X12_next_0 mTaped mRa mTape) mKi mWd mVal mLet mFin mNp mNb mOuts mWant mFnd mTape mNum mNam mFst mBnm mW mUn mSl mKp mnNum mnNam mnBo mnBn hB0 (by exact hpo)) hK hP hD hE hS (hB0 0 _ rfl) rfl rfl rfl hl.1 (Nat.le_of_ble_eq_true rfl) rfl rfl ⟨(Nat.le_of_ble_eq_true rfl), (Nat.le_of_ble_eq_true rfl)⟩ ⟨(Nat.le_of_ble_eq_true rfl), (Nat.le_of_ble_eq_true rfl)⟩ dX12_next_109) hS rfl (fun w4 H locs hQ hP hD hS => ?_)
          have hF := hF.trans hQ.2.1
          have hB0 : Blk w4 k (cM D α k mTaped mErr mPpl mBts mUs ((S_X12_next_109 mTaped mRa mTape).2.1) (X_X12_next_0 mTaped mRa mTape) ((S_X12_next_109 mTaped mRa mTape).1) mWd ((S_X12_next_109 mTaped mRa mTape).2.2) mLet mFin mNp mNb mOuts mWant mFnd mTape mNum mNam mFst mBnm mW mUn mSl mKp mnNum mnNam mnBo mnBn) := hQ.1
          have hp4_0 : rd_ (S_X12_next_109 mTaped mRa mTape).2.1 mTaped := hQ.2.2
          refine lv_goto (tgt := 148) S.1 S.2.1 dX12_next_112 (by decide) ?_
          have hf : (f_X12_next mTaped mRa mWd mVal mLet mTape) = ((S_X12_next_109 mTaped mRa mTape).1, mLet, (S_X12_next_109 mTaped mRa mTape).2.1, (X_X12_next_0 mTaped mRa mTape), (S_X12_next_109 mTaped mRa mTape).2.2, mWd) := (if_neg c1).trans ((cd_f c2).trans (cd_t c3))
          exact g_vret S hr hlk hP hD hS (rfl) (⟨by rw [hf]; exact hB0, hF, by rw [hf]; exact hp4_0⟩) dX12_next_148
      · refine lv_aload_n S.1 S.2.1 dX12_next_90 rfl (lv_at hl 0 rfl) ?_
        refine g_aft0 (st1 := []) (g_V (As := []) (rest := []) S mi_X12_nextWord qw1496 (c_X12_nextWord l D A w1 α (k) mTaped mErr mPpl mBts mUs (X_X12_next_0 mTaped mRa mTape) (X_X12_next_0 mTaped mRa mTape) mKi mWd mVal mLet mFin mNp mNb mOuts mWant mFnd mTape mNum mNam mFst mBnm mW mUn mSl mKp mnNum mnNam mnBo mnBn hB0 (by exact hpo)) hK hP hD hE hS (hB0 0 _ rfl) rfl rfl rfl hl.1 (Nat.le_of_ble_eq_true rfl) rfl rfl ⟨(Nat.le_of_ble_eq_true rfl), (Nat.le_of_ble_eq_true rfl)⟩ ⟨(Nat.le_of_ble_eq_true rfl), (Nat.le_of_ble_eq_true rfl)⟩ dX12_next_91) hS rfl (fun w5 H locs hQ hP hD hS => ?_)
        have hF := hF.trans hQ.2.1
        have hB0 : Blk w5 k (cM D α k mTaped mErr mPpl mBts mUs ((S_X12_next_91 mTaped mRa mTape).2.2.1) (X_X12_next_0 mTaped mRa mTape) ((S_X12_next_91 mTaped mRa mTape).1) ((S_X12_next_91 mTaped mRa mTape).2.2.2) mVal ((S_X12_next_91 mTaped mRa mTape).2.1) mFin mNp mNb mOuts mWant mFnd mTape mNum mNam mFst mBnm mW mUn mSl mKp mnNum mnNam mnBo mnBn) := hQ.1
        have hp5_0 : rd_ (S_X12_next_91 mTaped mRa mTape).2.2.1 mTaped := hQ.2.2
        refine lv_goto (tgt := 148) S.1 S.2.1 dX12_next_94 (by decide) ?_
        have hf : (f_X12_next mTaped mRa mWd mVal mLet mTape) = ((S_X12_next_91 mTaped mRa mTape).1, (S_X12_next_91 mTaped mRa mTape).2.1, (S_X12_next_91 mTaped mRa mTape).2.2.1, (X_X12_next_0 mTaped mRa mTape), mVal, (S_X12_next_91 mTaped mRa mTape).2.2.2) := (if_neg c1).trans (cd_t c2)
        exact g_vret S hr hlk hP hD hS (rfl) (⟨by rw [hf]; exact hB0, hF, by rw [hf]; exact hp5_0⟩) dX12_next_148
    · refine lv_aload_n S.1 S.2.1 dX12_next_71 rfl (lv_at hl 0 rfl) ?_
      refine lv_iconst (v := 0) S.1 S.2.1 dX12_next_72 (by decide) ?_
      refine g_put S hK hP hD hS (hB0 0 _ rfl) rfl inX12 tyX12_ok nmX12 16 (by decide) qw1390 rfl rfl rfl (Nat.le_of_ble_eq_true rfl) dX12_next_73 (fun w6 H locs hw hP hD hS => ?_)
      have hF := Same.set hF 0 hw (by decide)
      have hB0 : Blk w6 k (cM D α k mTaped mErr mPpl mBts mUs (X_X12_next_0 mTaped mRa mTape) (X_X12_next_0 mTaped mRa mTape) 0 mWd mVal mLet mFin mNp mNb mOuts mWant mFnd mTape mNum mNam mFst mBnm mW mUn mSl mKp mnNum mnNam mnBo mnBn) := hB0.set 0 hw (Nat.le_of_ble_eq_true rfl) rfl
      refine lv_goto (tgt := 148) S.1 S.2.1 dX12_next_76 (by decide) ?_
      have hf : (f_X12_next mTaped mRa mWd mVal mLet mTape) = (0, mLet, (X_X12_next_0 mTaped mRa mTape), (X_X12_next_0 mTaped mRa mTape), mVal, mWd) := if_pos c1
      exact g_vret S hr hlk hP hD hS (rfl) (⟨by rw [hf]; exact hB0, hF, by rw [hf]; exact hpo⟩) dX12_next_148
  have lw0 : ∀ (n : Nat) (sw0 : Int32), (rdn n sw0 mTaped) → (X_X12_next_0 mTaped mRa mTape) = whl_ (T_X12_next_0 mTaped mTape) n sw0 → ∀ (wl : va_W) (H : Heap) (locs : List Loc) (ls : Array Slot), va_P D vwCl wl H → va_D A wl → va_S A s.heap H locs → Same w wl k 14 → Blk wl k (cM D α k mTaped mErr mPpl mBts mUs sw0 mSt mKi mWd mVal mLet mFin mNp mNb mOuts mWant mFnd mTape mNum mNam mFst mBnm mW mUn mSl mKp mnNum mnNam mnBo mnBn) → lv_has ls 1 [(0, .ref (α (k)))] → W pg l en ({ frames := 2, cells := 0, slots := 0, locals := 44 } : Room) s mi ar below me co H locs 0 0 (MQ below (gQ D A none (fun w1 => Blk w1 k (cM D α k mTaped mErr mPpl mBts mUs ((f_X12_next mTaped mRa mWd mVal mLet mTape).2.2.1) ((f_X12_next mTaped mRa mWd mVal mLet mTape).2.2.2.1) ((f_X12_next mTaped mRa mWd mVal mLet mTape).1) ((f_X12_next mTaped mRa mWd mVal mLet mTape).2.2.2.2.2) ((f_X12_next mTaped mRa mWd mVal mLet mTape).2.2.2.2.1) ((f_X12_next mTaped mRa mWd mVal mLet mTape).2.1) mFin mNp mNb mOuts mWant mFnd mTape mNum mNam mFst mBnm mW mUn mSl mKp mnNum mnNam mnBo mnBn) ∧ Same w w1 k 14 ∧ (rd_ (f_X12_next mTaped mRa mWd mVal mLet mTape).2.2.1 mTaped))) ar s 0 0 A) (F0 mi 0 ls []) := by
    intro n
    induction n with
    | zero => intro sw0 hi; exact absurd hi (rdn_0)
    | succ n ih =>
      intro sw0 hi hx wl H locs ls hP hD hS hF hB0 hl
      refine lv_aload_n S.1 S.2.1 dX12_next_0 rfl (lv_at hl 0 rfl) ?_
      refine g_get (v := .int sw0) S hK hP (hB0 0 _ rfl) rfl inX12 14 (by decide) qw1388 rfl dX12_next_1 ?_
      refine lv_aload_n S.1 S.2.1 dX12_next_4 rfl (lv_at hl 0 rfl) ?_
      refine g_get (v := .int mTaped) S hK hP (hB0 0 _ rfl) rfl inX12 1 (by decide) qw1375 rfl dX12_next_5 ?_
      refine lv_icmp_ge (tgt := 52) S.1 S.2.1 dX12_next_8 (by decide) (fun (c5 : mTaped ≤ sw0) => ?_) (fun (c5 : ¬ mTaped ≤ sw0) => ?_)
      · skip
        have hT : (T_X12_next_0 mTaped mTape) sw0 = .inr sw0 := if_pos c5
        have hX := hx.trans (whl_o hT)
        have qj := jw0
        rw [hX] at qj
        exact qj (rdn_rd hi) _ _ _ _ hP hD hS hF hB0 (lv_sub hl [0] rfl)
      · refine lv_aload_n S.1 S.2.1 dX12_next_11 rfl (lv_at hl 0 rfl) ?_
        refine g_get (v := .ref (α (k + 1))) S hK hP (hB0 0 _ rfl) rfl inX12 0 (by decide) qw1374 rfl dX12_next_12 ?_
        refine lv_aload_n S.1 S.2.1 dX12_next_15 rfl (lv_at hl 0 rfl) ?_
        refine g_get (v := .int sw0) S hK hP (hB0 0 _ rfl) rfl inX12 14 (by decide) qw1388 rfl dX12_next_16 ?_
        refine g_bald S hK hP (hB0 1 _ rfl) (rd_in (rdn_rd hi) (by assumption)) dX12_next_19 ?_
        refine lv_bipush (v := 32) S.1 S.2.1 dX12_next_20 (by decide) ?_
        refine lv_icmp_eq (tgt := 39) S.1 S.2.1 dX12_next_22 (by decide) (fun (c6 : (mTape sw0.toNatClampNeg) = 32) => ?_) (fun (c6 : ¬ (mTape sw0.toNatClampNeg) = 32) => ?_)
        · refine lv_aload_n S.1 S.2.1 dX12_next_39 rfl (lv_at hl 0 rfl) ?_
          refine lv_dup S.1 S.2.1 dX12_next_40 rfl ?_
          refine g_get (v := .int sw0) S hK hP (hB0 0 _ rfl) rfl inX12 14 (by decide) qw1388 rfl dX12_next_41 ?_
          refine lv_iconst (v := 1) S.1 S.2.1 dX12_next_44 (by decide) ?_
          refine lv_iadd S.1 S.2.1 dX12_next_45 ?_
          refine g_put S hK hP hD hS (hB0 0 _ rfl) rfl inX12 tyX12_ok nmX12 14 (by decide) qw1388 rfl rfl rfl (Nat.le_of_ble_eq_true rfl) dX12_next_46 (fun w7 H locs hw hP hD hS => ?_)
          have hF := Same.set hF 0 hw (by decide)
          have hB0 : Blk w7 k (cM D α k mTaped mErr mPpl mBts mUs (sw0 + 1) mSt mKi mWd mVal mLet mFin mNp mNb mOuts mWant mFnd mTape mNum mNam mFst mBnm mW mUn mSl mKp mnNum mnNam mnBo mnBn) := hB0.set 0 hw (Nat.le_of_ble_eq_true rfl) rfl
          refine lv_goto (tgt := 0) S.1 S.2.1 dX12_next_49 (by decide) ?_
          have hT : (T_X12_next_0 mTaped mTape) sw0 = .inl (sw0 + 1) := (if_neg c5).trans (if_pos c6)
          exact ih _ (rdn_s hi (by assumption)) (hx.trans (whl_i hT)) _ _ _ _ hP hD hS hF hB0 (lv_sub hl [0] rfl)
        · refine lv_aload_n S.1 S.2.1 dX12_next_25 rfl (lv_at hl 0 rfl) ?_
          refine g_get (v := .ref (α (k + 1))) S hK hP (hB0 0 _ rfl) rfl inX12 0 (by decide) qw1374 rfl dX12_next_26 ?_
          refine lv_aload_n S.1 S.2.1 dX12_next_29 rfl (lv_at hl 0 rfl) ?_
          refine g_get (v := .int sw0) S hK hP (hB0 0 _ rfl) rfl inX12 14 (by decide) qw1388 rfl dX12_next_30 ?_
          refine g_bald S hK hP (hB0 1 _ rfl) (rd_in (rdn_rd hi) (by assumption)) dX12_next_33 ?_
          refine lv_bipush (v := 10) S.1 S.2.1 dX12_next_34 (by decide) ?_
          refine lv_icmp_ne (tgt := 52) S.1 S.2.1 dX12_next_36 (by decide) (fun (c7 : ¬ (mTape sw0.toNatClampNeg) = 10) => ?_) (fun (c7 : (mTape sw0.toNatClampNeg) = 10) => ?_)
          · skip
            have hT : (T_X12_next_0 mTaped mTape) sw0 = .inr sw0 := (if_neg c5).trans ((if_neg c6).trans (if_neg c7))
            have hX := hx.trans (whl_o hT)
            have qj := jw0
            rw [hX] at qj
            exact qj (rdn_rd hi) _ _ _ _ hP hD hS hF hB0 (lv_sub hl [0] rfl)
          · refine lv_aload_n S.1 S.2.1 dX12_next_39 rfl (lv_at hl 0 rfl) ?_
            refine lv_dup S.1 S.2.1 dX12_next_40 rfl ?_
            refine g_get (v := .int sw0) S hK hP (hB0 0 _ rfl) rfl inX12 14 (by decide) qw1388 rfl dX12_next_41 ?_
            refine lv_iconst (v := 1) S.1 S.2.1 dX12_next_44 (by decide) ?_
            refine lv_iadd S.1 S.2.1 dX12_next_45 ?_
            refine g_put S hK hP hD hS (hB0 0 _ rfl) rfl inX12 tyX12_ok nmX12 14 (by decide) qw1388 rfl rfl rfl (Nat.le_of_ble_eq_true rfl) dX12_next_46 (fun w8 H locs hw hP hD hS => ?_)
            have hF := Same.set hF 0 hw (by decide)
            have hB0 : Blk w8 k (cM D α k mTaped mErr mPpl mBts mUs (sw0 + 1) mSt mKi mWd mVal mLet mFin mNp mNb mOuts mWant mFnd mTape mNum mNam mFst mBnm mW mUn mSl mKp mnNum mnNam mnBo mnBn) := hB0.set 0 hw (Nat.le_of_ble_eq_true rfl) rfl
            refine lv_goto (tgt := 0) S.1 S.2.1 dX12_next_49 (by decide) ?_
            have hT : (T_X12_next_0 mTaped mTape) sw0 = .inl (sw0 + 1) := (if_neg c5).trans ((if_neg c6).trans (if_pos c7))
            exact ih _ (rdn_s hi (by assumption)) (hx.trans (whl_i hT)) _ _ _ _ hP hD hS hF hB0 (lv_sub hl [0] rfl)
  exact lw0 801 mRa (rdn_of (by assumption)) rfl _ _ _ _ hP hD hS hF hB0 (lv_sub hl [0] rfl)
noncomputable def J_X12_takes_4 (mErr : Int32) (mSt : Int32) (mFin : Int32) (z : Bool) : Int32 × Int32 := (bif tb mFin then (bif z then (mErr, mFin) else (mSt, 0)) else (mErr, mFin))
noncomputable def S_X12_takes_32 (mTaped : Int32) (mRa : Int32) (mWd : Int64) (mVal : Int32) (mLet : Int32) (mTape : Nat → Int32) : Int32 × Int32 × Int32 × Int32 × Int32 × Int64 := (f_X12_next mTaped mRa mWd mVal mLet mTape)
noncomputable def f_X12_takes (mTaped : Int32) (mErr : Int32) (mRa : Int32) (mSt : Int32) (mKi : Int32) (mWd : Int64) (mVal : Int32) (mLet : Int32) (mFin : Int32) (mTape : Nat → Int32) (z : Bool) : Int32 × Int32 × Int32 × Int32 × Int32 × Int32 × Int32 × Int64 := (bif tb ((J_X12_takes_4 mErr mSt mFin z).2) then ((J_X12_takes_4 mErr mSt mFin z).1, (J_X12_takes_4 mErr mSt mFin z).2, (S_X12_takes_32 mTaped mRa mWd mVal mLet mTape).1, (S_X12_takes_32 mTaped mRa mWd mVal mLet mTape).2.1, (S_X12_takes_32 mTaped mRa mWd mVal mLet mTape).2.2.1, (S_X12_takes_32 mTaped mRa mWd mVal mLet mTape).2.2.2.1, (S_X12_takes_32 mTaped mRa mWd mVal mLet mTape).2.2.2.2.1, (S_X12_takes_32 mTaped mRa mWd mVal mLet mTape).2.2.2.2.2) else ((J_X12_takes_4 mErr mSt mFin z).1, (J_X12_takes_4 mErr mSt mFin z).2, mKi, mLet, mRa, mSt, mVal, mWd))
theorem takes_fin {mErr mSt mFin : Int32} {z : Bool} (h : tb (J_X12_takes_4 mErr mSt mFin z).2 = true) : z = true ∧ tb mFin = true := by
  unfold J_X12_takes_4 at h
  cases c : tb mFin
  · rw [c] at h
    have h2 : tb mFin = true := h
    rw [c] at h2
    cases h2
  · rw [c] at h
    cases z
    · exact absurd (show tb 0 = true from h) (by decide)
    · exact ⟨rfl, rfl⟩
set_option maxHeartbeats 4000000 in
set_option maxRecDepth 100000 in
theorem c_X12_takes (l : Launch) (D : va_G) (A : Nat → Prop) (w : va_W) (α : Nat → Nat) (k : Nat) (mTaped : Int32) (mErr : Int32) (mPpl : Int32) (mBts : Int32) (mUs : Int32) (mRa : Int32) (mSt : Int32) (mKi : Int32) (mWd : Int64) (mVal : Int32) (mLet : Int32) (mFin : Int32) (mNp : Int32) (mNb : Int32) (mOuts : Int32) (mWant : Int32) (mFnd : Int32) (mTape : Nat → Int32) (mNum : Nat → Int32) (mNam : Nat → Int32) (mFst : Nat → Int32) (mBnm : Nat → Int32) (mW : Nat → Int32) (mUn : Nat → Int32) (mSl : Nat → Int32) (mKp : Nat → Int32) (mnNum : Nat → Int32) (mnNam : Nat → Int32) (mnBo : Nat → Int32) (mnBn : Nat → Int32) (z : Bool) (hB0 : Blk w k (cM D α k mTaped mErr mPpl mBts mUs mRa mSt mKi mWd mVal mLet mFin mNp mNb mOuts mWant mFnd mTape mNum mNam mFst mBnm mW mUn mSl mKp mnNum mnNam mnBo mnBn)) (hy0 : rd_ mRa mTaped) : Met l yX12_takes (ws_ yX12_takes cX12_takes 2 none) ({ frames := 3, cells := 0, slots := 0, locals := 64 }) (gPre D A [.ref (α (k)), .int (b2i z)] w) (gQ D A none (fun w1 => Blk w1 k (cM D α k mTaped ((f_X12_takes mTaped mErr mRa mSt mKi mWd mVal mLet mFin mTape z).1) mPpl mBts mUs ((f_X12_takes mTaped mErr mRa mSt mKi mWd mVal mLet mFin mTape z).2.2.2.2.1) ((f_X12_takes mTaped mErr mRa mSt mKi mWd mVal mLet mFin mTape z).2.2.2.2.2.1) ((f_X12_takes mTaped mErr mRa mSt mKi mWd mVal mLet mFin mTape z).2.2.1) ((f_X12_takes mTaped mErr mRa mSt mKi mWd mVal mLet mFin mTape z).2.2.2.2.2.2.2) ((f_X12_takes mTaped mErr mRa mSt mKi mWd mVal mLet mFin mTape z).2.2.2.2.2.2.1) ((f_X12_takes mTaped mErr mRa mSt mKi mWd mVal mLet mFin mTape z).2.2.2.1) ((f_X12_takes mTaped mErr mRa mSt mKi mWd mVal mLet mFin mTape z).2.1) mNp mNb mOuts mWant mFnd mTape mNum mNam mFst mBnm mW mUn mSl mKp mnNum mnNam mnBo mnBn) ∧ Same w w1 k 14 ∧ (rd_ (f_X12_takes mTaped mErr mRa mSt mKi mWd mVal mLet mFin mTape z).2.2.2.2.1 mTaped) ∧ (tb (f_X12_takes mTaped mErr mRa mSt mKi mWd mVal mLet mFin mTape z).2.1 = true → z = true ∧ tb mFin = true))) 0 0 A := by
  refine g_met [(0, .ref (α (k))), (1, .int (b2i z))] (plainFor_of_name (by decide)) (Nat.le_of_ble_eq_true rfl) rfl (fun pg en s mi ar below me co ls S hK hP hD hE hS hr hlk hnm hl => ?_)
  have hF : Same w w k 14 := Same.rf
  refine lv_aload_n S.1 S.2.1 dX12_takes_0 rfl (lv_at hl 0 rfl) ?_
  refine g_get (v := .int (b2i (tb mFin))) S hK hP (hB0 0 _ rfl) rfl inX12 20 (by decide) qw1394 rfl dX12_takes_1 ?_
  have jn4 : ∀ (wl : va_W) (H : Heap) (locs : List Loc) (ls : Array Slot), va_P D vwCl wl H → va_D A wl → va_S A s.heap H locs → Same w wl k 14 → Blk wl k (cM D α k mTaped ((J_X12_takes_4 mErr mSt mFin z).1) mPpl mBts mUs mRa mSt mKi mWd mVal mLet ((J_X12_takes_4 mErr mSt mFin z).2) mNp mNb mOuts mWant mFnd mTape mNum mNam mFst mBnm mW mUn mSl mKp mnNum mnNam mnBo mnBn) → lv_has ls 2 [(0, .ref (α (k))), (1, .int (b2i z))] → W pg l en ({ frames := 3, cells := 0, slots := 0, locals := 64 } : Room) s mi ar below me co H locs 0 0 (MQ below (gQ D A none (fun w1 => Blk w1 k (cM D α k mTaped ((f_X12_takes mTaped mErr mRa mSt mKi mWd mVal mLet mFin mTape z).1) mPpl mBts mUs ((f_X12_takes mTaped mErr mRa mSt mKi mWd mVal mLet mFin mTape z).2.2.2.2.1) ((f_X12_takes mTaped mErr mRa mSt mKi mWd mVal mLet mFin mTape z).2.2.2.2.2.1) ((f_X12_takes mTaped mErr mRa mSt mKi mWd mVal mLet mFin mTape z).2.2.1) ((f_X12_takes mTaped mErr mRa mSt mKi mWd mVal mLet mFin mTape z).2.2.2.2.2.2.2) ((f_X12_takes mTaped mErr mRa mSt mKi mWd mVal mLet mFin mTape z).2.2.2.2.2.2.1) ((f_X12_takes mTaped mErr mRa mSt mKi mWd mVal mLet mFin mTape z).2.2.2.1) ((f_X12_takes mTaped mErr mRa mSt mKi mWd mVal mLet mFin mTape z).2.1) mNp mNb mOuts mWant mFnd mTape mNum mNam mFst mBnm mW mUn mSl mKp mnNum mnNam mnBo mnBn) ∧ Same w w1 k 14 ∧ (rd_ (f_X12_takes mTaped mErr mRa mSt mKi mWd mVal mLet mFin mTape z).2.2.2.2.1 mTaped) ∧ (tb (f_X12_takes mTaped mErr mRa mSt mKi mWd mVal mLet mFin mTape z).2.1 = true → z = true ∧ tb mFin = true))) ar s 0 0 A) (F0 mi 24 ls []) := by
    intro wl H locs ls hP hD hS hF hB0 hl
    refine lv_aload_n S.1 S.2.1 dX12_takes_24 rfl (lv_at hl 0 rfl) ?_
    refine g_get (v := .int (b2i (tb ((J_X12_takes_4 mErr mSt mFin z).2)))) S hK hP (hB0 0 _ rfl) rfl inX12 20 (by decide) qw1394 rfl dX12_takes_25 ?_
    refine g_bifeq (b := tb ((J_X12_takes_4 mErr mSt mFin z).2)) (tgt := 35) S dX12_takes_28 (by decide) (fun (c3 : tb ((J_X12_takes_4 mErr mSt mFin z).2) = false) => ?_) (fun (c3 : tb ((J_X12_takes_4 mErr mSt mFin z).2) = true) => ?_)
    · have hf : (f_X12_takes mTaped mErr mRa mSt mKi mWd mVal mLet mFin mTape z) = ((J_X12_takes_4 mErr mSt mFin z).1, (J_X12_takes_4 mErr mSt mFin z).2, mKi, mLet, mRa, mSt, mVal, mWd) := cd_f c3
      exact g_vret S hr hlk hP hD hS (rfl) (⟨by rw [hf]; dsimp only; exact hB0, hF, by rw [hf]; (try dsimp only); assumption, by rw [hf]; (try dsimp only); exact takes_fin⟩) dX12_takes_35
    · refine lv_aload_n S.1 S.2.1 dX12_takes_31 rfl (lv_at hl 0 rfl) ?_
      have hNm : (f_X12_next mTaped mRa mWd mVal mLet mTape) = (S_X12_takes_32 mTaped mRa mWd mVal mLet mTape) := rfl
      have hCon := (c_X12_next l D A wl α (k) mTaped ((J_X12_takes_4 mErr mSt mFin z).1) mPpl mBts mUs mRa mSt mKi mWd mVal mLet ((J_X12_takes_4 mErr mSt mFin z).2) mNp mNb mOuts mWant mFnd mTape mNum mNam mFst mBnm mW mUn mSl mKp mnNum mnNam mnBo mnBn hB0 (by first | assumption | exact vin_d (by decide) | exact vp_in_nI (by omega) (by decide) | decide | omega))
      rw [hNm] at hCon
      refine g_aft0 (st1 := []) (g_V (As := []) (rest := []) S mi_X12_next qw1488 hCon hK hP hD hE hS (hB0 0 _ rfl) rfl rfl rfl hl.1 (Nat.le_of_ble_eq_true rfl) rfl rfl ⟨(Nat.le_of_ble_eq_true rfl), (Nat.le_of_ble_eq_true rfl)⟩ ⟨(Nat.le_of_ble_eq_true rfl), (Nat.le_of_ble_eq_true rfl)⟩ dX12_takes_32) hS rfl (fun w3 H locs hQ hP hD hS => ?_)
      have hF := hF.trans hQ.2.1
      have hB0 : Blk w3 k (cM D α k mTaped ((J_X12_takes_4 mErr mSt mFin z).1) mPpl mBts mUs ((S_X12_takes_32 mTaped mRa mWd mVal mLet mTape).2.2.1) ((S_X12_takes_32 mTaped mRa mWd mVal mLet mTape).2.2.2.1) ((S_X12_takes_32 mTaped mRa mWd mVal mLet mTape).1) ((S_X12_takes_32 mTaped mRa mWd mVal mLet mTape).2.2.2.2.2) ((S_X12_takes_32 mTaped mRa mWd mVal mLet mTape).2.2.2.2.1) ((S_X12_takes_32 mTaped mRa mWd mVal mLet mTape).2.1) ((J_X12_takes_4 mErr mSt mFin z).2) mNp mNb mOuts mWant mFnd mTape mNum mNam mFst mBnm mW mUn mSl mKp mnNum mnNam mnBo mnBn) := hQ.1
      have hp3_0 : rd_ (S_X12_takes_32 mTaped mRa mWd mVal mLet mTape).2.2.1 mTaped := hQ.2.2
      have hf : (f_X12_takes mTaped mErr mRa mSt mKi mWd mVal mLet mFin mTape z) = ((J_X12_takes_4 mErr mSt mFin z).1, (J_X12_takes_4 mErr mSt mFin z).2, (S_X12_takes_32 mTaped mRa mWd mVal mLet mTape).1, (S_X12_takes_32 mTaped mRa mWd mVal mLet mTape).2.1, (S_X12_takes_32 mTaped mRa mWd mVal mLet mTape).2.2.1, (S_X12_takes_32 mTaped mRa mWd mVal mLet mTape).2.2.2.1, (S_X12_takes_32 mTaped mRa mWd mVal mLet mTape).2.2.2.2.1, (S_X12_takes_32 mTaped mRa mWd mVal mLet mTape).2.2.2.2.2) := cd_t c3
      exact g_vret S hr hlk hP hD hS (rfl) (⟨by rw [hf]; dsimp only; exact hB0, hF, by rw [hf]; (try dsimp only); assumption, by rw [hf]; (try dsimp only); exact takes_fin⟩) dX12_takes_35
  refine g_bifeq (b := tb mFin) (tgt := 24) S dX12_takes_4 (by decide) (fun (c1 : tb mFin = false) => ?_) (fun (c1 : tb mFin = true) => ?_)
  · skip
    have hJ : (J_X12_takes_4 mErr mSt mFin z) = (mErr, mFin) := cd_f c1
    have qj := jn4
    rw [hJ] at qj
    exact qj _ _ _ _ hP hD hS hF hB0 (lv_sub hl [0, 1] rfl)
  · refine lv_iload_n S.1 S.2.1 dX12_takes_7 rfl (lv_at hl 1 rfl) ?_
    refine g_bifne (b := z) (tgt := 24) S dX12_takes_8 (by decide) (fun (c2 : z = true) => ?_) (fun (c2 : z = false) => ?_)
    · skip
      have hJ : (J_X12_takes_4 mErr mSt mFin z) = (mErr, mFin) := (cd_t c1).trans (cd_t c2)
      have qj := jn4
      rw [hJ] at qj
      exact qj _ _ _ _ hP hD hS hF hB0 (lv_sub hl [0, 1] rfl)
    · refine lv_aload_n S.1 S.2.1 dX12_takes_11 rfl (lv_at hl 0 rfl) ?_
      refine lv_iconst (v := 0) S.1 S.2.1 dX12_takes_12 (by decide) ?_
      refine g_put S hK hP hD hS (hB0 0 _ rfl) rfl inX12 tyX12_ok nmX12 20 (by decide) qw1394 rfl rfl rfl (Nat.le_of_ble_eq_true rfl) dX12_takes_13 (fun w1 H locs hw hP hD hS => ?_)
      have hF := Same.set hF 0 hw (by decide)
      have hB0 : Blk w1 k (cM D α k mTaped mErr mPpl mBts mUs mRa mSt mKi mWd mVal mLet 0 mNp mNb mOuts mWant mFnd mTape mNum mNam mFst mBnm mW mUn mSl mKp mnNum mnNam mnBo mnBn) := hB0.set 0 hw (Nat.le_of_ble_eq_true rfl) rfl
      refine lv_aload_n S.1 S.2.1 dX12_takes_16 rfl (lv_at hl 0 rfl) ?_
      refine lv_aload_n S.1 S.2.1 dX12_takes_17 rfl (lv_at hl 0 rfl) ?_
      refine g_get (v := .int mSt) S hK hP (hB0 0 _ rfl) rfl inX12 15 (by decide) qw1389 rfl dX12_takes_18 ?_
      refine g_put S hK hP hD hS (hB0 0 _ rfl) rfl inX12 tyX12_ok nmX12 2 (by decide) qw1376 rfl rfl rfl (Nat.le_of_ble_eq_true rfl) dX12_takes_21 (fun w2 H locs hw hP hD hS => ?_)
      have hF := Same.set hF 0 hw (by decide)
      have hB0 : Blk w2 k (cM D α k mTaped mSt mPpl mBts mUs mRa mSt mKi mWd mVal mLet 0 mNp mNb mOuts mWant mFnd mTape mNum mNam mFst mBnm mW mUn mSl mKp mnNum mnNam mnBo mnBn) := hB0.set 0 hw (Nat.le_of_ble_eq_true rfl) rfl
      have hJ : (J_X12_takes_4 mErr mSt mFin z) = (mSt, 0) := (cd_t c1).trans (cd_f c2)
      have qj := jn4
      rw [hJ] at qj
      exact qj _ _ _ _ hP hD hS hF hB0 (lv_sub hl [0, 1] rfl)
def f_X12_isWord (mKi : Int32) (mWd : Int64) (mFin : Int32) (x : Int64) : Bool := (bif tb mFin then (if mKi = 2 then (if mWd = x then true else false) else false) else false)
set_option maxHeartbeats 4000000 in
set_option maxRecDepth 100000 in
theorem c_X12_isWord (l : Launch) (D : va_G) (A : Nat → Prop) (w : va_W) (α : Nat → Nat) (k : Nat) (mTaped : Int32) (mErr : Int32) (mPpl : Int32) (mBts : Int32) (mUs : Int32) (mRa : Int32) (mSt : Int32) (mKi : Int32) (mWd : Int64) (mVal : Int32) (mLet : Int32) (mFin : Int32) (mNp : Int32) (mNb : Int32) (mOuts : Int32) (mWant : Int32) (mFnd : Int32) (mTape : Nat → Int32) (mNum : Nat → Int32) (mNam : Nat → Int32) (mFst : Nat → Int32) (mBnm : Nat → Int32) (mW : Nat → Int32) (mUn : Nat → Int32) (mSl : Nat → Int32) (mKp : Nat → Int32) (mnNum : Nat → Int32) (mnNam : Nat → Int32) (mnBo : Nat → Int32) (mnBn : Nat → Int32) (x : Int64) (hB0 : Blk w k (cM D α k mTaped mErr mPpl mBts mUs mRa mSt mKi mWd mVal mLet mFin mNp mNb mOuts mWant mFnd mTape mNum mNam mFst mBnm mW mUn mSl mKp mnNum mnNam mnBo mnBn)) : Met l yX12_isWord (ws_ yX12_isWord cX12_isWord 3 (some .boolean)) ({ frames := 0, cells := 0, slots := 0, locals := 0 }) (gPre D A [.ref (α (k)), .long x] w) (gR (some (.int (b2i (f_X12_isWord mKi mWd mFin x))))) 0 0 A := by
  refine g_met [(0, .ref (α (k))), (1, .long x)] (plainFor_of_name (by decide)) (Nat.le_of_ble_eq_true rfl) rfl (fun pg en s mi ar below me co ls S hK hP hD hE hS hr hlk hnm hl => ?_)
  refine lv_aload_n S.1 S.2.1 dX12_isWord_0 rfl (lv_at hl 0 rfl) ?_
  refine g_get (v := .int (b2i (tb mFin))) S hK hP (hB0 0 _ rfl) rfl inX12 20 (by decide) qw1394 rfl dX12_isWord_1 ?_
  refine g_bifeq (b := tb mFin) (tgt := 28) S dX12_isWord_4 (by decide) (fun (c1 : tb mFin = false) => ?_) (fun (c1 : tb mFin = true) => ?_)
  · refine lv_iconst (v := 0) S.1 S.2.1 dX12_isWord_28 (by decide) ?_
    have hf : (f_X12_isWord mKi mWd mFin x) = false := cd_f c1
    exact g_zretR S hr hlk hS rfl (by rw [hf] <;> rfl) dX12_isWord_29
  · refine lv_aload_n S.1 S.2.1 dX12_isWord_7 rfl (lv_at hl 0 rfl) ?_
    refine g_get (v := .int mKi) S hK hP (hB0 0 _ rfl) rfl inX12 16 (by decide) qw1390 rfl dX12_isWord_8 ?_
    refine lv_iconst (v := 2) S.1 S.2.1 dX12_isWord_11 (by decide) ?_
    refine lv_icmp_ne (tgt := 28) S.1 S.2.1 dX12_isWord_12 (by decide) (fun (c2 : ¬ mKi = 2) => ?_) (fun (c2 : mKi = 2) => ?_)
    · refine lv_iconst (v := 0) S.1 S.2.1 dX12_isWord_28 (by decide) ?_
      have hf : (f_X12_isWord mKi mWd mFin x) = false := (cd_t c1).trans (if_neg c2)
      exact g_zretR S hr hlk hS rfl (by rw [hf] <;> rfl) dX12_isWord_29
    · refine lv_aload_n S.1 S.2.1 dX12_isWord_15 rfl (lv_at hl 0 rfl) ?_
      refine g_get (v := .long mWd) S hK hP (hB0 0 _ rfl) rfl inX12 17 (by decide) qw1391 rfl dX12_isWord_16 ?_
      refine lv_lload_n S.1 S.2.1 dX12_isWord_19 rfl (lv_at hl 1 rfl) ?_
      refine W.lcmp S.1 S.2.1 dX12_isWord_20 ?_
      refine lv_if_ne (tgt := 28) S.1 S.2.1 dX12_isWord_21 (by decide) (fun c3 => ?_) (fun c3 => ?_)
      · have c3 : ¬ (mWd = x) := fun h => c3 (lgc0.mpr h)
        refine lv_iconst (v := 0) S.1 S.2.1 dX12_isWord_28 (by decide) ?_
        have hf : (f_X12_isWord mKi mWd mFin x) = false := (cd_t c1).trans ((if_pos c2).trans (if_neg c3))
        exact g_zretR S hr hlk hS rfl (by rw [hf] <;> rfl) dX12_isWord_29
      · have c3 : mWd = x := lgc0.mp c3
        refine lv_iconst (v := 1) S.1 S.2.1 dX12_isWord_24 (by decide) ?_
        refine lv_goto (tgt := 29) S.1 S.2.1 dX12_isWord_25 (by decide) ?_
        have hf : (f_X12_isWord mKi mWd mFin x) = true := (cd_t c1).trans ((if_pos c2).trans (if_pos c3))
        exact g_zretR S hr hlk hS rfl (by rw [hf] <;> rfl) dX12_isWord_29
