def S_X12_sail_34 (mUs : Int32) (mW : Nat → Int32) (mUn : Nat → Int32) : (Nat → Int32) × Int32 := (f_X12_keeps mUs mW mUn)
def S_X12_sail_76 (mW : Nat → Int32) (b : Int32) (n : Nat) (sn : Int32 × (Nat → Int32)) : (Nat → Int32) := (f_X12_sets (sn.2) (nI n) 1 b)
def L_X12_sail_42 (mW : Nat → Int32) (b : Int32) : Nat → Int32 × (Nat → Int32) := iter_ (fun n sn => (if (f_X12_of (sn.2) (nI n) 0) = b then (bif (f_X12_isAtSea (sn.2) (nI n)) then (sn.1, sn.2) else ((sn.1 + 1), (S_X12_sail_76 mW b n sn))) else (sn.1, sn.2))) (0, mW)
def S_X12_sail_92 (mPpl : Int32) (mW : Nat → Int32) (b : Int32) : (Nat → Int32) := (f_X12_setsBoat ((L_X12_sail_42 mW b mPpl.toNatClampNeg).2) b 0 1)
def S_X12_sail_106 (mPpl : Int32) (mW : Nat → Int32) (b : Int32) (d : Int32) : (Nat → Int32) := (f_X12_setsBoat (S_X12_sail_92 mPpl mW b) b 1 (((S_X12_sail_92 mPpl mW b) 0) + d))
def S_X12_sail_120 (mPpl : Int32) (mW : Nat → Int32) (b : Int32) (d : Int32) : (Nat → Int32) := (f_X12_setsBoat (S_X12_sail_106 mPpl mW b d) b 2 ((f_X12_ofBoat (S_X12_sail_106 mPpl mW b d) b 2) + 1))
def S_X12_sail_132 (mPpl : Int32) (mW : Nat → Int32) (b : Int32) (d : Int32) : (Nat → Int32) := (f_X12_tells (S_X12_sail_120 mPpl mW b d) 0 b (f_X12_ofBoat (S_X12_sail_120 mPpl mW b d) b 1))
def f_X12_sail (mPpl : Int32) (mBts : Int32) (mUs : Int32) (mW : Nat → Int32) (mUn : Nat → Int32) (b : Int32) (d : Int32) : Int32 × (Nat → Int32) × Int32 × (Nat → Int32) := (bif (f_X12_isBoat mBts b) then (bif (f_X12_in d.toInt64 1 99) then (bif (f_X12_isOut mW b) then ((-4), mUn, mUs, mW) else ((L_X12_sail_42 mW b mPpl.toNatClampNeg).1, (S_X12_sail_34 mUs mW mUn).1, (S_X12_sail_34 mUs mW mUn).2, (S_X12_sail_132 mPpl mW b d))) else ((-1), mUn, mUs, mW)) else ((-1), mUn, mUs, mW))
theorem sail_ne {mPpl b : Int32} {mW : Nat → Int32} (h : vp_in mPpl 21) {j : Nat} (hj : j < 9 ∨ 229 ≤ j) : (L_X12_sail_42 mW b mPpl.toNatClampNeg).2 j = mW j := by
  have hn := vin_lt h
  refine iter_inv (fun _ (s : Int32 × (Nat → Int32)) => s.2 j = mW j) rfl (fun n s hk hs => ?_) _ (Nat.le_refl _)
  show (ite _ (bif _ then _ else _) _ : Int32 × (Nat → Int32)).2 j = _
  split
  · cases f_X12_isAtSea s.2 (nI n)
    · exact (sets_ne (vp_in_nI (by omega) (by decide)) (vin_d (by decide)) hj).trans hs
    · exact hs
  · exact hs
set_option maxHeartbeats 4000000 in
set_option maxRecDepth 100000 in
theorem c_X12_sail (l : Launch) (D : va_G) (A : Nat → Prop) (w : va_W) (α : Nat → Nat) (k : Nat) (mTaped : Int32) (mErr : Int32) (mPpl : Int32) (mBts : Int32) (mUs : Int32) (mRa : Int32) (mSt : Int32) (mKi : Int32) (mWd : Int64) (mVal : Int32) (mLet : Int32) (mFin : Int32) (mNp : Int32) (mNb : Int32) (mOuts : Int32) (mWant : Int32) (mFnd : Int32) (mTape : Nat → Int32) (mNum : Nat → Int32) (mNam : Nat → Int32) (mFst : Nat → Int32) (mBnm : Nat → Int32) (mW : Nat → Int32) (mUn : Nat → Int32) (mSl : Nat → Int32) (mKp : Nat → Int32) (mnNum : Nat → Int32) (mnNam : Nat → Int32) (mnBo : Nat → Int32) (mnBn : Nat → Int32) (b : Int32) (d : Int32) (hB0 : Blk w k (cM D α k mTaped mErr mPpl mBts mUs mRa mSt mKi mWd mVal mLet mFin mNp mNb mOuts mWant mFnd mTape mNum mNam mFst mBnm mW mUn mSl mKp mnNum mnNam mnBo mnBn)) (hy0 : vp_in mUs 9) (hy1 : vp_in mPpl 21) (hy2 : vp_in mBts 7) (hy3 : vp_in (mW 8) 31) : Met l yX12_sail (ws_ yX12_sail cX12_sail 5 (some .int)) ({ frames := 2, cells := 0, slots := 0, locals := 46 }) (gPre D A [.ref (α (k)), .int b, .int d] w) (gQ D A (some (.int (f_X12_sail mPpl mBts mUs mW mUn b d).1)) (fun w1 => Blk w1 k (cM D α k mTaped mErr mPpl mBts ((f_X12_sail mPpl mBts mUs mW mUn b d).2.2.1) mRa mSt mKi mWd mVal mLet mFin mNp mNb mOuts mWant mFnd mTape mNum mNam mFst mBnm ((f_X12_sail mPpl mBts mUs mW mUn b d).2.2.2) ((f_X12_sail mPpl mBts mUs mW mUn b d).2.1) mSl mKp mnNum mnNam mnBo mnBn) ∧ Same w w1 k 14)) 0 0 A := by
  refine g_met [(0, .ref (α (k))), (1, .int b), (2, .int d)] (plainFor_of_name (by decide)) (Nat.le_of_ble_eq_true rfl) rfl (fun pg en s mi ar below me co ls S hK hP hD hE hS hr hlk hnm hl => ?_)
  have hF : Same w w k 14 := Same.rf
  have hpn := vin_lt (show vp_in mPpl 21 by assumption)
  refine lv_aload_n S.1 S.2.1 dX12_sail_0 rfl (lv_at hl 0 rfl) ?_
  refine lv_iload_n S.1 S.2.1 dX12_sail_1 rfl (lv_at hl 1 rfl) ?_
  refine g_aftR0 (st1 := [.int (b2i (f_X12_isBoat mBts b))]) (g_V (As := [.int b]) (rest := []) S mi_X12_isBoat qw1562 (c_X12_isBoat l D A w α (k) mTaped mErr mPpl mBts mUs mRa mSt mKi mWd mVal mLet mFin mNp mNb mOuts mWant mFnd mTape mNum mNam mFst mBnm mW mUn mSl mKp mnNum mnNam mnBo mnBn b hB0) hK hP hD hE hS (hB0 0 _ rfl) rfl rfl rfl hl.1 (Nat.le_of_ble_eq_true rfl) rfl rfl ⟨(Nat.le_of_ble_eq_true rfl), (Nat.le_of_ble_eq_true rfl)⟩ ⟨(Nat.le_of_ble_eq_true rfl), (Nat.le_of_ble_eq_true rfl)⟩ dX12_sail_2) hS rfl (fun locs hS => ?_)
  refine g_bifeq (b := (f_X12_isBoat mBts b)) (tgt := 20) S dX12_sail_5 (by decide) (fun (c1 : (f_X12_isBoat mBts b) = false) => ?_) (fun (c1 : (f_X12_isBoat mBts b) = true) => ?_)
  · refine lv_iconst (v := (-1)) S.1 S.2.1 dX12_sail_20 (by decide) ?_
    have hf : (f_X12_sail mPpl mBts mUs mW mUn b d) = ((-1), mUn, mUs, mW) := cd_f c1
    exact g_iret S hr hlk hP hD hS (by rw [hf] <;> rfl) (⟨by rw [hf]; exact hB0, hF⟩) dX12_sail_21
  · have hh1 := isBoat_in (by assumption) c1
    refine lv_iload_n S.1 S.2.1 dX12_sail_8 rfl (lv_at hl 2 rfl) ?_
    refine lv_i2l (v := d.toInt64) S.1 S.2.1 dX12_sail_9 rfl ?_
    refine lv_lconst (v := 1) S.1 S.2.1 dX12_sail_10 (by decide) ?_
    refine lv_ldc2 (v := 99) S.1 S.2.1 S.2.2.2.1 (S.2.2.2.2 _ qw1566) dX12_sail_11 ?_
    refine g_aftR0 (st1 := [.int (b2i (f_X12_in d.toInt64 1 99))]) (g_St (As := [.long d.toInt64, .long 1, .long 99]) (rest := []) S ms_X12_in qw1477 (c_X12_in l D A w α d.toInt64 1 99) hK hP hD hE hS rfl rfl hl.1 (Nat.le_of_ble_eq_true rfl) rfl rfl ⟨(Nat.le_of_ble_eq_true rfl), (Nat.le_of_ble_eq_true rfl)⟩ ⟨(Nat.le_of_ble_eq_true rfl), (Nat.le_of_ble_eq_true rfl)⟩ dX12_sail_14) hS rfl (fun locs hS => ?_)
    refine g_bifne (b := (f_X12_in d.toInt64 1 99)) (tgt := 22) S dX12_sail_17 (by decide) (fun (c2 : (f_X12_in d.toInt64 1 99) = true) => ?_) (fun (c2 : (f_X12_in d.toInt64 1 99) = false) => ?_)
    · refine lv_aload_n S.1 S.2.1 dX12_sail_22 rfl (lv_at hl 0 rfl) ?_
      refine lv_iload_n S.1 S.2.1 dX12_sail_23 rfl (lv_at hl 1 rfl) ?_
      refine g_aftR0 (st1 := [.int (b2i (f_X12_isOut mW b))]) (g_V (As := [.int b]) (rest := []) S mi_X12_isOut qw1567 (c_X12_isOut l D A w α (k) mTaped mErr mPpl mBts mUs mRa mSt mKi mWd mVal mLet mFin mNp mNb mOuts mWant mFnd mTape mNum mNam mFst mBnm mW mUn mSl mKp mnNum mnNam mnBo mnBn b hB0 (by first | assumption | exact vin_d (by decide) | exact vp_in_nI (by omega) (by decide) | decide | omega)) hK hP hD hE hS (hB0 0 _ rfl) rfl rfl rfl hl.1 (Nat.le_of_ble_eq_true rfl) rfl rfl ⟨(Nat.le_of_ble_eq_true rfl), (Nat.le_of_ble_eq_true rfl)⟩ ⟨(Nat.le_of_ble_eq_true rfl), (Nat.le_of_ble_eq_true rfl)⟩ dX12_sail_24) hS rfl (fun locs hS => ?_)
      refine g_bifeq (b := (f_X12_isOut mW b)) (tgt := 33) S dX12_sail_27 (by decide) (fun (c3 : (f_X12_isOut mW b) = false) => ?_) (fun (c3 : (f_X12_isOut mW b) = true) => ?_)
      · refine lv_aload_n S.1 S.2.1 dX12_sail_33 rfl (lv_at hl 0 rfl) ?_
        refine g_aft0 (st1 := []) (g_V (As := []) (rest := []) S mi_X12_keeps qw1575 (c_X12_keeps l D A w α (k) mTaped mErr mPpl mBts mUs mRa mSt mKi mWd mVal mLet mFin mNp mNb mOuts mWant mFnd mTape mNum mNam mFst mBnm mW mUn mSl mKp mnNum mnNam mnBo mnBn hB0 (by first | assumption | exact vin_d (by decide) | exact vp_in_nI (by omega) (by decide) | decide | omega)) hK hP hD hE hS (hB0 0 _ rfl) rfl rfl rfl hl.1 (Nat.le_of_ble_eq_true rfl) rfl rfl ⟨(Nat.le_of_ble_eq_true rfl), (Nat.le_of_ble_eq_true rfl)⟩ ⟨(Nat.le_of_ble_eq_true rfl), (Nat.le_of_ble_eq_true rfl)⟩ dX12_sail_34) hS rfl (fun w1 H locs hQ hP hD hS => ?_)
        have hF := hF.trans hQ.2
        have hB0 : Blk w1 k (cM D α k mTaped mErr mPpl mBts ((S_X12_sail_34 mUs mW mUn).2) mRa mSt mKi mWd mVal mLet mFin mNp mNb mOuts mWant mFnd mTape mNum mNam mFst mBnm mW ((S_X12_sail_34 mUs mW mUn).1) mSl mKp mnNum mnNam mnBo mnBn) := hQ.1
        refine lv_iconst (v := 0) S.1 S.2.1 dX12_sail_37 (by decide) ?_
        refine lv_istore_n (lv' := [(3, .int 0), (0, .ref (α (k))), (1, .int b), (2, .int d)]) S.1 S.2.1 dX12_sail_38 rfl hl (by decide) rfl (fun ls hl => ?_)
        refine lv_iconst (v := 0) S.1 S.2.1 dX12_sail_39 (by decide) ?_
        refine lv_istore (lv' := [(4, .int 0), (3, .int 0), (0, .ref (α (k))), (1, .int b), (2, .int d)]) S.1 S.2.1 dX12_sail_40 hl (by decide) rfl (fun ls hl => ?_)
        have lp42 : ∀ (j n : Nat), n + j = mPpl.toNatClampNeg → ∀ (wl : va_W) (H : Heap) (locs : List Loc) (ls : Array Slot), va_P D vwCl wl H → va_D A wl → va_S A s.heap H locs → Same w wl k 14 → Blk wl k (cM D α k mTaped mErr mPpl mBts ((S_X12_sail_34 mUs mW mUn).2) mRa mSt mKi mWd mVal mLet mFin mNp mNb mOuts mWant mFnd mTape mNum mNam mFst mBnm ((L_X12_sail_42 mW b n).2) ((S_X12_sail_34 mUs mW mUn).1) mSl mKp mnNum mnNam mnBo mnBn) → lv_has ls 5 [(4, .int (nI n)), (3, .int ((L_X12_sail_42 mW b n).1)), (0, .ref (α (k))), (1, .int b), (2, .int d)] → W pg l en ({ frames := 2, cells := 0, slots := 0, locals := 46 } : Room) s mi ar below me co H locs 0 0 (MQ below (gQ D A (some (.int (f_X12_sail mPpl mBts mUs mW mUn b d).1)) (fun w1 => Blk w1 k (cM D α k mTaped mErr mPpl mBts ((f_X12_sail mPpl mBts mUs mW mUn b d).2.2.1) mRa mSt mKi mWd mVal mLet mFin mNp mNb mOuts mWant mFnd mTape mNum mNam mFst mBnm ((f_X12_sail mPpl mBts mUs mW mUn b d).2.2.2) ((f_X12_sail mPpl mBts mUs mW mUn b d).2.1) mSl mKp mnNum mnNam mnBo mnBn) ∧ Same w w1 k 14)) ar s 0 0 A) (F0 mi 42 ls []) := by
          intro j
          induction j with
          | zero =>
            intro n hn wl H locs ls hP hD hS hF hB0 hl
            have hn : mPpl.toNatClampNeg = n := hn.symm
            subst hn
            refine lv_iload S.1 S.2.1 dX12_sail_42 (lv_at hl 0 rfl) ?_
            refine lv_aload_n S.1 S.2.1 dX12_sail_44 rfl (lv_at hl 2 rfl) ?_
            refine g_get (v := .int mPpl) S hK hP (hB0 0 _ rfl) rfl inX12 4 (by decide) qw1378 rfl dX12_sail_45 ?_
            refine lv_icmp_ge (tgt := 88) S.1 S.2.1 dX12_sail_48 (by decide) (fun (c4 : mPpl ≤ (nI mPpl.toNatClampNeg)) => ?_) (fun (c4 : ¬ mPpl ≤ (nI mPpl.toNatClampNeg)) => absurd c4 (lp_out (s := 0) ((Nat.max_eq_left (Nat.zero_le _)).symm)))
            refine lv_aload_n S.1 S.2.1 dX12_sail_88 rfl (lv_at hl 2 rfl) ?_
            refine lv_iload_n S.1 S.2.1 dX12_sail_89 rfl (lv_at hl 3 rfl) ?_
            refine lv_iconst (v := 0) S.1 S.2.1 dX12_sail_90 (by decide) ?_
            refine lv_iconst (v := 1) S.1 S.2.1 dX12_sail_91 (by decide) ?_
            refine g_aft0 (st1 := []) (g_V (As := [.int b, .int 0, .int 1]) (rest := []) S mi_X12_setsBoat qw1587 (c_X12_setsBoat l D A wl α (k) mTaped mErr mPpl mBts ((S_X12_sail_34 mUs mW mUn).2) mRa mSt mKi mWd mVal mLet mFin mNp mNb mOuts mWant mFnd mTape mNum mNam mFst mBnm ((L_X12_sail_42 mW b mPpl.toNatClampNeg).2) ((S_X12_sail_34 mUs mW mUn).1) mSl mKp mnNum mnNam mnBo mnBn b 0 1 hB0 (by first | assumption | exact vin_d (by decide) | exact vp_in_nI (by omega) (by decide) | decide | omega) (by first | assumption | exact vin_d (by decide) | exact vp_in_nI (by omega) (by decide) | decide | omega)) hK hP hD hE hS (hB0 0 _ rfl) rfl rfl rfl hl.1 (Nat.le_of_ble_eq_true rfl) rfl rfl ⟨(Nat.le_of_ble_eq_true rfl), (Nat.le_of_ble_eq_true rfl)⟩ ⟨(Nat.le_of_ble_eq_true rfl), (Nat.le_of_ble_eq_true rfl)⟩ dX12_sail_92) hS rfl (fun w2 H locs hQ hP hD hS => ?_)
            have hF := hF.trans hQ.2
            have hB0 : Blk w2 k (cM D α k mTaped mErr mPpl mBts ((S_X12_sail_34 mUs mW mUn).2) mRa mSt mKi mWd mVal mLet mFin mNp mNb mOuts mWant mFnd mTape mNum mNam mFst mBnm (S_X12_sail_92 mPpl mW b) ((S_X12_sail_34 mUs mW mUn).1) mSl mKp mnNum mnNam mnBo mnBn) := hQ.1
            refine lv_aload_n S.1 S.2.1 dX12_sail_95 rfl (lv_at hl 2 rfl) ?_
            refine lv_iload_n S.1 S.2.1 dX12_sail_96 rfl (lv_at hl 3 rfl) ?_
            refine lv_iconst (v := 1) S.1 S.2.1 dX12_sail_97 (by decide) ?_
            refine lv_aload_n S.1 S.2.1 dX12_sail_98 rfl (lv_at hl 2 rfl) ?_
            refine g_get (v := .ref (α (k + 6))) S hK hP (hB0 0 _ rfl) rfl inX12 9 (by decide) qw1383 rfl dX12_sail_99 ?_
            refine lv_iconst (v := 0) S.1 S.2.1 dX12_sail_102 (by decide) ?_
            refine g_iald S hK hP (hB0 6 _ rfl) (by first | assumption | exact vin_d (by decide) | exact vp_in_nI (by omega) (by decide) | decide) dX12_sail_103 ?_
            refine lv_iload_n S.1 S.2.1 dX12_sail_104 rfl (lv_at hl 4 rfl) ?_
            refine lv_iadd S.1 S.2.1 dX12_sail_105 ?_
            refine g_aft0 (st1 := []) (g_V (As := [.int b, .int 1, .int (((S_X12_sail_92 mPpl mW b) 0) + d)]) (rest := []) S mi_X12_setsBoat qw1587 (c_X12_setsBoat l D A w2 α (k) mTaped mErr mPpl mBts ((S_X12_sail_34 mUs mW mUn).2) mRa mSt mKi mWd mVal mLet mFin mNp mNb mOuts mWant mFnd mTape mNum mNam mFst mBnm (S_X12_sail_92 mPpl mW b) ((S_X12_sail_34 mUs mW mUn).1) mSl mKp mnNum mnNam mnBo mnBn b 1 (((S_X12_sail_92 mPpl mW b) 0) + d) hB0 (by first | assumption | exact vin_d (by decide) | exact vp_in_nI (by omega) (by decide) | decide | omega) (by first | assumption | exact vin_d (by decide) | exact vp_in_nI (by omega) (by decide) | decide | omega)) hK hP hD hE hS (hB0 0 _ rfl) rfl rfl rfl hl.1 (Nat.le_of_ble_eq_true rfl) rfl rfl ⟨(Nat.le_of_ble_eq_true rfl), (Nat.le_of_ble_eq_true rfl)⟩ ⟨(Nat.le_of_ble_eq_true rfl), (Nat.le_of_ble_eq_true rfl)⟩ dX12_sail_106) hS rfl (fun w3 H locs hQ hP hD hS => ?_)
            have hF := hF.trans hQ.2
            have hB0 : Blk w3 k (cM D α k mTaped mErr mPpl mBts ((S_X12_sail_34 mUs mW mUn).2) mRa mSt mKi mWd mVal mLet mFin mNp mNb mOuts mWant mFnd mTape mNum mNam mFst mBnm (S_X12_sail_106 mPpl mW b d) ((S_X12_sail_34 mUs mW mUn).1) mSl mKp mnNum mnNam mnBo mnBn) := hQ.1
            refine lv_aload_n S.1 S.2.1 dX12_sail_109 rfl (lv_at hl 2 rfl) ?_
            refine lv_iload_n S.1 S.2.1 dX12_sail_110 rfl (lv_at hl 3 rfl) ?_
            refine lv_iconst (v := 2) S.1 S.2.1 dX12_sail_111 (by decide) ?_
            refine lv_aload_n S.1 S.2.1 dX12_sail_112 rfl (lv_at hl 2 rfl) ?_
            refine lv_iload_n S.1 S.2.1 dX12_sail_113 rfl (lv_at hl 3 rfl) ?_
            refine lv_iconst (v := 2) S.1 S.2.1 dX12_sail_114 (by decide) ?_
            refine g_aftR0 (st1 := [.int (f_X12_ofBoat (S_X12_sail_106 mPpl mW b d) b 2), .int 2, .int b, .ref (α (k))]) (g_V (As := [.int b, .int 2]) (rest := [.int 2, .int b, .ref (α (k))]) S mi_X12_ofBoat qw1571 (c_X12_ofBoat l D A w3 α (k) mTaped mErr mPpl mBts ((S_X12_sail_34 mUs mW mUn).2) mRa mSt mKi mWd mVal mLet mFin mNp mNb mOuts mWant mFnd mTape mNum mNam mFst mBnm (S_X12_sail_106 mPpl mW b d) ((S_X12_sail_34 mUs mW mUn).1) mSl mKp mnNum mnNam mnBo mnBn b 2 hB0 (by first | assumption | exact vin_d (by decide) | exact vp_in_nI (by omega) (by decide) | decide | omega) (by first | assumption | exact vin_d (by decide) | exact vp_in_nI (by omega) (by decide) | decide | omega)) hK hP hD hE hS (hB0 0 _ rfl) rfl rfl rfl hl.1 (Nat.le_of_ble_eq_true rfl) rfl rfl ⟨(Nat.le_of_ble_eq_true rfl), (Nat.le_of_ble_eq_true rfl)⟩ ⟨(Nat.le_of_ble_eq_true rfl), (Nat.le_of_ble_eq_true rfl)⟩ dX12_sail_115) hS rfl (fun locs hS => ?_)
            refine lv_iconst (v := 1) S.1 S.2.1 dX12_sail_118 (by decide) ?_
            refine lv_iadd S.1 S.2.1 dX12_sail_119 ?_
            refine g_aft0 (st1 := []) (g_V (As := [.int b, .int 2, .int ((f_X12_ofBoat (S_X12_sail_106 mPpl mW b d) b 2) + 1)]) (rest := []) S mi_X12_setsBoat qw1587 (c_X12_setsBoat l D A w3 α (k) mTaped mErr mPpl mBts ((S_X12_sail_34 mUs mW mUn).2) mRa mSt mKi mWd mVal mLet mFin mNp mNb mOuts mWant mFnd mTape mNum mNam mFst mBnm (S_X12_sail_106 mPpl mW b d) ((S_X12_sail_34 mUs mW mUn).1) mSl mKp mnNum mnNam mnBo mnBn b 2 ((f_X12_ofBoat (S_X12_sail_106 mPpl mW b d) b 2) + 1) hB0 (by first | assumption | exact vin_d (by decide) | exact vp_in_nI (by omega) (by decide) | decide | omega) (by first | assumption | exact vin_d (by decide) | exact vp_in_nI (by omega) (by decide) | decide | omega)) hK hP hD hE hS (hB0 0 _ rfl) rfl rfl rfl hl.1 (Nat.le_of_ble_eq_true rfl) rfl rfl ⟨(Nat.le_of_ble_eq_true rfl), (Nat.le_of_ble_eq_true rfl)⟩ ⟨(Nat.le_of_ble_eq_true rfl), (Nat.le_of_ble_eq_true rfl)⟩ dX12_sail_120) hS rfl (fun w4 H locs hQ hP hD hS => ?_)
            have hF := hF.trans hQ.2
            have hB0 : Blk w4 k (cM D α k mTaped mErr mPpl mBts ((S_X12_sail_34 mUs mW mUn).2) mRa mSt mKi mWd mVal mLet mFin mNp mNb mOuts mWant mFnd mTape mNum mNam mFst mBnm (S_X12_sail_120 mPpl mW b d) ((S_X12_sail_34 mUs mW mUn).1) mSl mKp mnNum mnNam mnBo mnBn) := hQ.1
            refine lv_aload_n S.1 S.2.1 dX12_sail_123 rfl (lv_at hl 2 rfl) ?_
            refine lv_iconst (v := 0) S.1 S.2.1 dX12_sail_124 (by decide) ?_
            refine lv_iload_n S.1 S.2.1 dX12_sail_125 rfl (lv_at hl 3 rfl) ?_
            refine lv_aload_n S.1 S.2.1 dX12_sail_126 rfl (lv_at hl 2 rfl) ?_
            refine lv_iload_n S.1 S.2.1 dX12_sail_127 rfl (lv_at hl 3 rfl) ?_
            refine lv_iconst (v := 1) S.1 S.2.1 dX12_sail_128 (by decide) ?_
            refine g_aftR0 (st1 := [.int (f_X12_ofBoat (S_X12_sail_120 mPpl mW b d) b 1), .int b, .int 0, .ref (α (k))]) (g_V (As := [.int b, .int 1]) (rest := [.int b, .int 0, .ref (α (k))]) S mi_X12_ofBoat qw1571 (c_X12_ofBoat l D A w4 α (k) mTaped mErr mPpl mBts ((S_X12_sail_34 mUs mW mUn).2) mRa mSt mKi mWd mVal mLet mFin mNp mNb mOuts mWant mFnd mTape mNum mNam mFst mBnm (S_X12_sail_120 mPpl mW b d) ((S_X12_sail_34 mUs mW mUn).1) mSl mKp mnNum mnNam mnBo mnBn b 1 hB0 (by first | assumption | exact vin_d (by decide) | exact vp_in_nI (by omega) (by decide) | decide | omega) (by first | assumption | exact vin_d (by decide) | exact vp_in_nI (by omega) (by decide) | decide | omega)) hK hP hD hE hS (hB0 0 _ rfl) rfl rfl rfl hl.1 (Nat.le_of_ble_eq_true rfl) rfl rfl ⟨(Nat.le_of_ble_eq_true rfl), (Nat.le_of_ble_eq_true rfl)⟩ ⟨(Nat.le_of_ble_eq_true rfl), (Nat.le_of_ble_eq_true rfl)⟩ dX12_sail_129) hS rfl (fun locs hS => ?_)
            refine g_aft0 (st1 := []) (g_V (As := [.int 0, .int b, .int (f_X12_ofBoat (S_X12_sail_120 mPpl mW b d) b 1)]) (rest := []) S mi_X12_tells qw1591 (c_X12_tells l D A w4 α (k) mTaped mErr mPpl mBts ((S_X12_sail_34 mUs mW mUn).2) mRa mSt mKi mWd mVal mLet mFin mNp mNb mOuts mWant mFnd mTape mNum mNam mFst mBnm (S_X12_sail_120 mPpl mW b d) ((S_X12_sail_34 mUs mW mUn).1) mSl mKp mnNum mnNam mnBo mnBn 0 b (f_X12_ofBoat (S_X12_sail_120 mPpl mW b d) b 1) hB0 (by exact (lg_setsB (lg_setsB (lg_setsB (by rw [sail_ne hy1 (Or.inl (by decide))]; exact hy3) (by assumption) (vin_d (by decide))) (by assumption) (vin_d (by decide))) (by assumption) (vin_d (by decide))))) hK hP hD hE hS (hB0 0 _ rfl) rfl rfl rfl hl.1 (Nat.le_of_ble_eq_true rfl) rfl rfl ⟨(Nat.le_of_ble_eq_true rfl), (Nat.le_of_ble_eq_true rfl)⟩ ⟨(Nat.le_of_ble_eq_true rfl), (Nat.le_of_ble_eq_true rfl)⟩ dX12_sail_132) hS rfl (fun w5 H locs hQ hP hD hS => ?_)
            have hF := hF.trans hQ.2
            have hB0 : Blk w5 k (cM D α k mTaped mErr mPpl mBts ((S_X12_sail_34 mUs mW mUn).2) mRa mSt mKi mWd mVal mLet mFin mNp mNb mOuts mWant mFnd mTape mNum mNam mFst mBnm (S_X12_sail_132 mPpl mW b d) ((S_X12_sail_34 mUs mW mUn).1) mSl mKp mnNum mnNam mnBo mnBn) := hQ.1
            refine lv_iload_n S.1 S.2.1 dX12_sail_135 rfl (lv_at hl 1 rfl) ?_
            have hf : (f_X12_sail mPpl mBts mUs mW mUn b d) = ((L_X12_sail_42 mW b mPpl.toNatClampNeg).1, (S_X12_sail_34 mUs mW mUn).1, (S_X12_sail_34 mUs mW mUn).2, (S_X12_sail_132 mPpl mW b d)) := (cd_t c1).trans ((cd_t c2).trans (cd_f c3))
            exact g_iret S hr hlk hP hD hS (by rw [hf] <;> rfl) (⟨by rw [hf]; exact hB0, hF⟩) dX12_sail_136
          | succ j ih =>
            intro n hn wl H locs ls hP hD hS hF hB0 hl
            refine lv_iload S.1 S.2.1 dX12_sail_42 (lv_at hl 0 rfl) ?_
            refine lv_aload_n S.1 S.2.1 dX12_sail_44 rfl (lv_at hl 2 rfl) ?_
            refine g_get (v := .int mPpl) S hK hP (hB0 0 _ rfl) rfl inX12 4 (by decide) qw1378 rfl dX12_sail_45 ?_
            refine lv_icmp_ge (tgt := 88) S.1 S.2.1 dX12_sail_48 (by decide) (fun (c5 : mPpl ≤ (nI n)) => absurd c5 (lp_in (s := 0) (rfl) hn)) (fun (c5 : ¬ mPpl ≤ (nI n)) => ?_)
            refine lv_aload_n S.1 S.2.1 dX12_sail_51 rfl (lv_at hl 2 rfl) ?_
            refine lv_iload S.1 S.2.1 dX12_sail_52 (lv_at hl 0 rfl) ?_
            refine lv_iconst (v := 0) S.1 S.2.1 dX12_sail_54 (by decide) ?_
            refine g_aftR0 (st1 := [.int (f_X12_of ((L_X12_sail_42 mW b n).2) (nI n) 0)]) (g_V (As := [.int (nI n), .int 0]) (rest := []) S mi_X12_of qw1579 (c_X12_of l D A wl α (k) mTaped mErr mPpl mBts ((S_X12_sail_34 mUs mW mUn).2) mRa mSt mKi mWd mVal mLet mFin mNp mNb mOuts mWant mFnd mTape mNum mNam mFst mBnm ((L_X12_sail_42 mW b n).2) ((S_X12_sail_34 mUs mW mUn).1) mSl mKp mnNum mnNam mnBo mnBn (nI n) 0 hB0 (by first | assumption | exact vin_d (by decide) | exact vp_in_nI (by omega) (by decide) | decide | omega) (by first | assumption | exact vin_d (by decide) | exact vp_in_nI (by omega) (by decide) | decide | omega)) hK hP hD hE hS (hB0 0 _ rfl) rfl rfl rfl hl.1 (Nat.le_of_ble_eq_true rfl) rfl rfl ⟨(Nat.le_of_ble_eq_true rfl), (Nat.le_of_ble_eq_true rfl)⟩ ⟨(Nat.le_of_ble_eq_true rfl), (Nat.le_of_ble_eq_true rfl)⟩ dX12_sail_55) hS rfl (fun locs hS => ?_)
            refine lv_iload_n S.1 S.2.1 dX12_sail_58 rfl (lv_at hl 3 rfl) ?_
            refine lv_icmp_ne (tgt := 82) S.1 S.2.1 dX12_sail_59 (by decide) (fun (c6 : ¬ (f_X12_of ((L_X12_sail_42 mW b n).2) (nI n) 0) = b) => ?_) (fun (c6 : (f_X12_of ((L_X12_sail_42 mW b n).2) (nI n) 0) = b) => ?_)
            · refine lv_iinc (v := (nI (n + 1))) (lv' := [(4, .int (nI (n + 1))), (3, .int ((L_X12_sail_42 mW b n).1)), (0, .ref (α (k))), (1, .int b), (2, .int d)]) S.1 S.2.1 dX12_sail_82 hl (k := 0) rfl ((nI_succ n).symm) (by decide) rfl (fun ls hl => ?_)
              refine lv_goto (tgt := 42) S.1 S.2.1 dX12_sail_85 (by decide) ?_
              have hL : (L_X12_sail_42 mW b (n + 1)) = ((L_X12_sail_42 mW b n).1, (L_X12_sail_42 mW b n).2) := (iter_s _ _ _).trans (if_neg c6)
              refine ih (n + 1) (by omega) _ _ _ _ hP hD hS hF ?_ ?_
              · rw [hL]; exact hB0
              · rw [hL]; exact lv_sub hl [0, 1, 2, 3, 4] rfl
            · refine lv_aload_n S.1 S.2.1 dX12_sail_62 rfl (lv_at hl 2 rfl) ?_
              refine lv_iload S.1 S.2.1 dX12_sail_63 (lv_at hl 0 rfl) ?_
              refine g_aftR0 (st1 := [.int (b2i (f_X12_isAtSea ((L_X12_sail_42 mW b n).2) (nI n)))]) (g_V (As := [.int (nI n)]) (rest := []) S mi_X12_isAtSea qw1583 (c_X12_isAtSea l D A wl α (k) mTaped mErr mPpl mBts ((S_X12_sail_34 mUs mW mUn).2) mRa mSt mKi mWd mVal mLet mFin mNp mNb mOuts mWant mFnd mTape mNum mNam mFst mBnm ((L_X12_sail_42 mW b n).2) ((S_X12_sail_34 mUs mW mUn).1) mSl mKp mnNum mnNam mnBo mnBn (nI n) hB0 (by first | assumption | exact vin_d (by decide) | exact vp_in_nI (by omega) (by decide) | decide | omega)) hK hP hD hE hS (hB0 0 _ rfl) rfl rfl rfl hl.1 (Nat.le_of_ble_eq_true rfl) rfl rfl ⟨(Nat.le_of_ble_eq_true rfl), (Nat.le_of_ble_eq_true rfl)⟩ ⟨(Nat.le_of_ble_eq_true rfl), (Nat.le_of_ble_eq_true rfl)⟩ dX12_sail_65) hS rfl (fun locs hS => ?_)
              refine g_bifne (b := (f_X12_isAtSea ((L_X12_sail_42 mW b n).2) (nI n))) (tgt := 82) S dX12_sail_68 (by decide) (fun (c7 : (f_X12_isAtSea ((L_X12_sail_42 mW b n).2) (nI n)) = true) => ?_) (fun (c7 : (f_X12_isAtSea ((L_X12_sail_42 mW b n).2) (nI n)) = false) => ?_)
              · refine lv_iinc (v := (nI (n + 1))) (lv' := [(4, .int (nI (n + 1))), (3, .int ((L_X12_sail_42 mW b n).1)), (0, .ref (α (k))), (1, .int b), (2, .int d)]) S.1 S.2.1 dX12_sail_82 hl (k := 0) rfl ((nI_succ n).symm) (by decide) rfl (fun ls hl => ?_)
                refine lv_goto (tgt := 42) S.1 S.2.1 dX12_sail_85 (by decide) ?_
                have hL : (L_X12_sail_42 mW b (n + 1)) = ((L_X12_sail_42 mW b n).1, (L_X12_sail_42 mW b n).2) := (iter_s _ _ _).trans ((if_pos c6).trans (cd_t c7))
                refine ih (n + 1) (by omega) _ _ _ _ hP hD hS hF ?_ ?_
                · rw [hL]; exact hB0
                · rw [hL]; exact lv_sub hl [0, 1, 2, 3, 4] rfl
              · refine lv_aload_n S.1 S.2.1 dX12_sail_71 rfl (lv_at hl 2 rfl) ?_
                refine lv_iload S.1 S.2.1 dX12_sail_72 (lv_at hl 0 rfl) ?_
                refine lv_iconst (v := 1) S.1 S.2.1 dX12_sail_74 (by decide) ?_
                refine lv_iload_n S.1 S.2.1 dX12_sail_75 rfl (lv_at hl 3 rfl) ?_
                refine g_aft0 (st1 := []) (g_V (As := [.int (nI n), .int 1, .int b]) (rest := []) S mi_X12_sets qw1362 (c_X12_sets l D A wl α (k) mTaped mErr mPpl mBts ((S_X12_sail_34 mUs mW mUn).2) mRa mSt mKi mWd mVal mLet mFin mNp mNb mOuts mWant mFnd mTape mNum mNam mFst mBnm ((L_X12_sail_42 mW b n).2) ((S_X12_sail_34 mUs mW mUn).1) mSl mKp mnNum mnNam mnBo mnBn (nI n) 1 b hB0 (by first | assumption | exact vin_d (by decide) | exact vp_in_nI (by omega) (by decide) | decide | omega) (by first | assumption | exact vin_d (by decide) | exact vp_in_nI (by omega) (by decide) | decide | omega)) hK hP hD hE hS (hB0 0 _ rfl) rfl rfl rfl hl.1 (Nat.le_of_ble_eq_true rfl) rfl rfl ⟨(Nat.le_of_ble_eq_true rfl), (Nat.le_of_ble_eq_true rfl)⟩ ⟨(Nat.le_of_ble_eq_true rfl), (Nat.le_of_ble_eq_true rfl)⟩ dX12_sail_76) hS rfl (fun w6 H locs hQ hP hD hS => ?_)
                have hF := hF.trans hQ.2
                have hB0 : Blk w6 k (cM D α k mTaped mErr mPpl mBts ((S_X12_sail_34 mUs mW mUn).2) mRa mSt mKi mWd mVal mLet mFin mNp mNb mOuts mWant mFnd mTape mNum mNam mFst mBnm (S_X12_sail_76 mW b n (L_X12_sail_42 mW b n)) ((S_X12_sail_34 mUs mW mUn).1) mSl mKp mnNum mnNam mnBo mnBn) := hQ.1
                refine lv_iinc (v := ((L_X12_sail_42 mW b n).1 + 1)) (lv' := [(3, .int ((L_X12_sail_42 mW b n).1 + 1)), (4, .int (nI n)), (0, .ref (α (k))), (1, .int b), (2, .int d)]) S.1 S.2.1 dX12_sail_79 hl (k := 1) rfl (rfl) (by decide) rfl (fun ls hl => ?_)
                refine lv_iinc (v := (nI (n + 1))) (lv' := [(4, .int (nI (n + 1))), (3, .int ((L_X12_sail_42 mW b n).1 + 1)), (0, .ref (α (k))), (1, .int b), (2, .int d)]) S.1 S.2.1 dX12_sail_82 hl (k := 1) rfl ((nI_succ n).symm) (by decide) rfl (fun ls hl => ?_)
                refine lv_goto (tgt := 42) S.1 S.2.1 dX12_sail_85 (by decide) ?_
                have hL : (L_X12_sail_42 mW b (n + 1)) = (((L_X12_sail_42 mW b n).1 + 1), (S_X12_sail_76 mW b n (L_X12_sail_42 mW b n))) := (iter_s _ _ _).trans ((if_pos c6).trans (cd_f c7))
                refine ih (n + 1) (by omega) _ _ _ _ hP hD hS hF ?_ ?_
                · rw [hL]; exact hB0
                · rw [hL]; exact lv_sub hl [0, 1, 2, 3, 4] rfl
        have hL0 : (L_X12_sail_42 mW b 0) = (0, mW) := iter_z _ _
        exact lp42 mPpl.toNatClampNeg 0 (Nat.zero_add _) _ _ _ _ hP hD hS hF (by rw [hL0]; exact hB0) (by rw [hL0]; exact lv_sub hl [0, 1, 2, 3, 4] rfl)
      · refine lv_bipush (v := (-4)) S.1 S.2.1 dX12_sail_30 (by decide) ?_
        have hf : (f_X12_sail mPpl mBts mUs mW mUn b d) = ((-4), mUn, mUs, mW) := (cd_t c1).trans ((cd_t c2).trans (cd_t c3))
        exact g_iret S hr hlk hP hD hS (by rw [hf] <;> rfl) (⟨by rw [hf]; exact hB0, hF⟩) dX12_sail_32
    · refine lv_iconst (v := (-1)) S.1 S.2.1 dX12_sail_20 (by decide) ?_
      have hf : (f_X12_sail mPpl mBts mUs mW mUn b d) = ((-1), mUn, mUs, mW) := (cd_t c1).trans (cd_f c2)
      exact g_iret S hr hlk hP hD hS (by rw [hf] <;> rfl) (⟨by rw [hf]; exact hB0, hF⟩) dX12_sail_21
