def L_X12_open_32 (mW : Nat → Int32) : Nat → (Nat → Int32) := iter_ (fun n sn => (f_X12_isBackFromVote sn (nI n))) mW
def f_X12_open (mPpl : Int32) (mUs : Int32) (mW : Nat → Int32) (mUn : Nat → Int32) (b : Int32) : Int32 × (Nat → Int32) × Int32 × (Nat → Int32) := (bif (f_X12_in b.toInt64 2 4) then (bif (f_X12_isOpen mW) then ((-5), mUn, mUs, mW) else (((L_X12_open_32 mW mPpl.toNatClampNeg) 1), (f_X12_keeps mUs mW mUn).1, (f_X12_keeps mUs mW mUn).2, (f_X12_tells (upd (upd (upd (upd (upd (L_X12_open_32 mW mPpl.toNatClampNeg) 1 (((L_X12_open_32 mW mPpl.toNatClampNeg) 1) + 1)) 2 1) 3 b) 6 0) 7 0) 2 ((L_X12_open_32 mW mPpl.toNatClampNeg) 1) b))) else ((-1), mUn, mUs, mW))
theorem laidNo_ne {mW : Nat → Int32} {p : Int32} {j : Nat} (hp : vp_in p 20) (hj : j < 9 ∨ 229 ≤ j) : f_X12_isLaidNoMore mW p j = mW j :=
  (sets_ne hp (vin_d (by decide)) hj).trans ((sets_ne hp (vin_d (by decide)) hj).trans (sets_ne hp (vin_d (by decide)) hj))
theorem back_ne {mW : Nat → Int32} {p : Int32} {j : Nat} (hp : vp_in p 20) (hj : j < 9 ∨ 229 ≤ j) : f_X12_isBackFromVote mW p j = mW j := by
  unfold f_X12_isBackFromVote
  cases f_X12_isLaid (f_X12_sets mW p 4 0) p
  · exact sets_ne hp (vin_d (by decide)) hj
  · show (ite _ _ _ : Nat → Int32) j = _
    split
    · exact (laidNo_ne hp hj).trans ((sets_ne hp (vin_d (by decide)) hj).trans (sets_ne hp (vin_d (by decide)) hj))
    · exact (laidNo_ne hp hj).trans ((sets_ne hp (vin_d (by decide)) hj).trans (sets_ne hp (vin_d (by decide)) hj))
theorem open_ne {mPpl : Int32} {mW : Nat → Int32} (h : vp_in mPpl 21) {j : Nat} (hj : j < 9 ∨ 229 ≤ j) : L_X12_open_32 mW mPpl.toNatClampNeg j = mW j := by
  have hn := vin_lt h
  refine iter_inv (fun _ (s : Nat → Int32) => s j = mW j) rfl (fun n s hk hs => ?_) _ (Nat.le_refl _)
  exact (back_ne (vp_in_nI (by omega) (by decide)) hj).trans hs
set_option maxHeartbeats 4000000 in
set_option maxRecDepth 100000 in
theorem c_X12_open (l : Launch) (D : va_G) (A : Nat → Prop) (w : va_W) (α : Nat → Nat) (k : Nat) (mTaped : Int32) (mErr : Int32) (mPpl : Int32) (mBts : Int32) (mUs : Int32) (mRa : Int32) (mSt : Int32) (mKi : Int32) (mWd : Int64) (mVal : Int32) (mLet : Int32) (mFin : Int32) (mNp : Int32) (mNb : Int32) (mOuts : Int32) (mWant : Int32) (mFnd : Int32) (mTape : Nat → Int32) (mNum : Nat → Int32) (mNam : Nat → Int32) (mFst : Nat → Int32) (mBnm : Nat → Int32) (mW : Nat → Int32) (mUn : Nat → Int32) (mSl : Nat → Int32) (mKp : Nat → Int32) (mnNum : Nat → Int32) (mnNam : Nat → Int32) (mnBo : Nat → Int32) (mnBn : Nat → Int32) (b : Int32) (hB0 : Blk w k (cM D α k mTaped mErr mPpl mBts mUs mRa mSt mKi mWd mVal mLet mFin mNp mNb mOuts mWant mFnd mTape mNum mNam mFst mBnm mW mUn mSl mKp mnNum mnNam mnBo mnBn)) (hy0 : vp_in mUs 9) (hy1 : vp_in mPpl 21) (hy2 : vp_in (mW 8) 31) : Met l yX12_open (ws_ yX12_open cX12_open 3 (some .int)) ({ frames := 3, cells := 0, slots := 0, locals := 65 }) (gPre D A [.ref (α (k)), .int b] w) (gQ D A (some (.int (f_X12_open mPpl mUs mW mUn b).1)) (fun w1 => Blk w1 k (cM D α k mTaped mErr mPpl mBts ((f_X12_open mPpl mUs mW mUn b).2.2.1) mRa mSt mKi mWd mVal mLet mFin mNp mNb mOuts mWant mFnd mTape mNum mNam mFst mBnm ((f_X12_open mPpl mUs mW mUn b).2.2.2) ((f_X12_open mPpl mUs mW mUn b).2.1) mSl mKp mnNum mnNam mnBo mnBn) ∧ Same w w1 k 14)) 0 0 A := by
  refine g_met [(0, .ref (α (k))), (1, .int b)] (plainFor_of_name (by decide)) (Nat.le_of_ble_eq_true rfl) rfl (fun pg en s mi ar below me co ls S hK hP hD hE hS hr hlk hnm hl => ?_)
  have hF : Same w w k 14 := Same.rf
  have hpn := vin_lt (show vp_in mPpl 21 by assumption)
  refine lv_iload_n S.1 S.2.1 dX12_open_0 rfl (lv_at hl 1 rfl) ?_
  refine lv_i2l (v := b.toInt64) S.1 S.2.1 dX12_open_1 rfl ?_
  refine lv_ldc2 (v := 2) S.1 S.2.1 S.2.2.2.1 (S.2.2.2.2 _ qw1619) dX12_open_2 ?_
  refine lv_ldc2 (v := 4) S.1 S.2.1 S.2.2.2.1 (S.2.2.2.2 _ qw1620) dX12_open_5 ?_
  refine g_aftR0 (st1 := [.int (b2i (f_X12_in b.toInt64 2 4))]) (g_St (As := [.long b.toInt64, .long 2, .long 4]) (rest := []) S ms_X12_in qw1477 (c_X12_in l D A w α b.toInt64 2 4) hK hP hD hE hS rfl rfl hl.1 (Nat.le_of_ble_eq_true rfl) rfl rfl ⟨(Nat.le_of_ble_eq_true rfl), (Nat.le_of_ble_eq_true rfl)⟩ ⟨(Nat.le_of_ble_eq_true rfl), (Nat.le_of_ble_eq_true rfl)⟩ dX12_open_8) hS rfl (fun locs hS => ?_)
  refine g_bifne (b := (f_X12_in b.toInt64 2 4)) (tgt := 16) S dX12_open_11 (by decide) (fun (c1 : (f_X12_in b.toInt64 2 4) = true) => ?_) (fun (c1 : (f_X12_in b.toInt64 2 4) = false) => ?_)
  · refine lv_aload_n S.1 S.2.1 dX12_open_16 rfl (lv_at hl 0 rfl) ?_
    refine g_aftR0 (st1 := [.int (b2i (f_X12_isOpen mW))]) (g_V (As := []) (rest := []) S mi_X12_isOpen qw1621 (c_X12_isOpen l D A w α (k) mTaped mErr mPpl mBts mUs mRa mSt mKi mWd mVal mLet mFin mNp mNb mOuts mWant mFnd mTape mNum mNam mFst mBnm mW mUn mSl mKp mnNum mnNam mnBo mnBn hB0) hK hP hD hE hS (hB0 0 _ rfl) rfl rfl rfl hl.1 (Nat.le_of_ble_eq_true rfl) rfl rfl ⟨(Nat.le_of_ble_eq_true rfl), (Nat.le_of_ble_eq_true rfl)⟩ ⟨(Nat.le_of_ble_eq_true rfl), (Nat.le_of_ble_eq_true rfl)⟩ dX12_open_17) hS rfl (fun locs hS => ?_)
    refine g_bifeq (b := (f_X12_isOpen mW)) (tgt := 26) S dX12_open_20 (by decide) (fun (c2 : (f_X12_isOpen mW) = false) => ?_) (fun (c2 : (f_X12_isOpen mW) = true) => ?_)
    · refine lv_aload_n S.1 S.2.1 dX12_open_26 rfl (lv_at hl 0 rfl) ?_
      refine g_aft0 (st1 := []) (g_V (As := []) (rest := []) S mi_X12_keeps qw1575 (c_X12_keeps l D A w α (k) mTaped mErr mPpl mBts mUs mRa mSt mKi mWd mVal mLet mFin mNp mNb mOuts mWant mFnd mTape mNum mNam mFst mBnm mW mUn mSl mKp mnNum mnNam mnBo mnBn hB0 (by first | assumption | exact vin_d (by decide) | exact vp_in_nI (by omega) (by decide) | decide | omega)) hK hP hD hE hS (hB0 0 _ rfl) rfl rfl rfl hl.1 (Nat.le_of_ble_eq_true rfl) rfl rfl ⟨(Nat.le_of_ble_eq_true rfl), (Nat.le_of_ble_eq_true rfl)⟩ ⟨(Nat.le_of_ble_eq_true rfl), (Nat.le_of_ble_eq_true rfl)⟩ dX12_open_27) hS rfl (fun w1 H locs hQ hP hD hS => ?_)
      have hF := hF.trans hQ.2
      have hB0 : Blk w1 k (cM D α k mTaped mErr mPpl mBts ((f_X12_keeps mUs mW mUn).2) mRa mSt mKi mWd mVal mLet mFin mNp mNb mOuts mWant mFnd mTape mNum mNam mFst mBnm mW ((f_X12_keeps mUs mW mUn).1) mSl mKp mnNum mnNam mnBo mnBn) := hQ.1
      refine lv_iconst (v := 0) S.1 S.2.1 dX12_open_30 (by decide) ?_
      refine lv_istore_n (lv' := [(2, .int 0), (0, .ref (α (k))), (1, .int b)]) S.1 S.2.1 dX12_open_31 rfl hl (by decide) rfl (fun ls hl => ?_)
      have lp32 : ∀ (j n : Nat), n + j = mPpl.toNatClampNeg → ∀ (wl : va_W) (H : Heap) (locs : List Loc) (ls : Array Slot), va_P D vwCl wl H → va_D A wl → va_S A s.heap H locs → Same w wl k 14 → Blk wl k (cM D α k mTaped mErr mPpl mBts ((f_X12_keeps mUs mW mUn).2) mRa mSt mKi mWd mVal mLet mFin mNp mNb mOuts mWant mFnd mTape mNum mNam mFst mBnm (L_X12_open_32 mW n) ((f_X12_keeps mUs mW mUn).1) mSl mKp mnNum mnNam mnBo mnBn) → lv_has ls 3 [(2, .int (nI n)), (0, .ref (α (k))), (1, .int b)] → W pg l en ({ frames := 3, cells := 0, slots := 0, locals := 65 } : Room) s mi ar below me co H locs 0 0 (MQ below (gQ D A (some (.int (f_X12_open mPpl mUs mW mUn b).1)) (fun w1 => Blk w1 k (cM D α k mTaped mErr mPpl mBts ((f_X12_open mPpl mUs mW mUn b).2.2.1) mRa mSt mKi mWd mVal mLet mFin mNp mNb mOuts mWant mFnd mTape mNum mNam mFst mBnm ((f_X12_open mPpl mUs mW mUn b).2.2.2) ((f_X12_open mPpl mUs mW mUn b).2.1) mSl mKp mnNum mnNam mnBo mnBn) ∧ Same w w1 k 14)) ar s 0 0 A) (F0 mi 32 ls []) := by
        intro j
        induction j with
        | zero =>
          intro n hn wl H locs ls hP hD hS hF hB0 hl
          have hn : mPpl.toNatClampNeg = n := hn.symm
          subst hn
          refine lv_iload_n S.1 S.2.1 dX12_open_32 rfl (lv_at hl 0 rfl) ?_
          refine lv_aload_n S.1 S.2.1 dX12_open_33 rfl (lv_at hl 1 rfl) ?_
          refine g_get (v := .int mPpl) S hK hP (hB0 0 _ rfl) rfl inX12 4 (by decide) qw1378 rfl dX12_open_34 ?_
          refine lv_icmp_ge (tgt := 51) S.1 S.2.1 dX12_open_37 (by decide) (fun (c3 : mPpl ≤ (nI mPpl.toNatClampNeg)) => ?_) (fun (c3 : ¬ mPpl ≤ (nI mPpl.toNatClampNeg)) => absurd c3 (lp_out (s := 0) ((Nat.max_eq_left (Nat.zero_le _)).symm)))
          refine lv_aload_n S.1 S.2.1 dX12_open_51 rfl (lv_at hl 1 rfl) ?_
          refine g_get (v := .ref (α (k + 6))) S hK hP (hB0 0 _ rfl) rfl inX12 9 (by decide) qw1383 rfl dX12_open_52 ?_
          refine lv_iconst (v := 1) S.1 S.2.1 dX12_open_55 (by decide) ?_
          refine g_iald S hK hP (hB0 6 _ rfl) (by first | assumption | exact vin_d (by decide) | exact vp_in_nI (by omega) (by decide) | decide) dX12_open_56 ?_
          refine lv_istore_n (lv' := [(2, .int ((L_X12_open_32 mW mPpl.toNatClampNeg) 1)), (0, .ref (α (k))), (1, .int b)]) S.1 S.2.1 dX12_open_57 rfl hl (by decide) rfl (fun ls hl => ?_)
          refine lv_aload_n S.1 S.2.1 dX12_open_58 rfl (lv_at hl 1 rfl) ?_
          refine g_get (v := .ref (α (k + 6))) S hK hP (hB0 0 _ rfl) rfl inX12 9 (by decide) qw1383 rfl dX12_open_59 ?_
          refine lv_iconst (v := 1) S.1 S.2.1 dX12_open_62 (by decide) ?_
          refine lv_dup2_11 S.1 S.2.1 dX12_open_63 rfl rfl ?_
          refine g_iald S hK hP (hB0 6 _ rfl) (by first | assumption | exact vin_d (by decide) | exact vp_in_nI (by omega) (by decide) | decide) dX12_open_64 ?_
          refine lv_iconst (v := 1) S.1 S.2.1 dX12_open_65 (by decide) ?_
          refine lv_iadd S.1 S.2.1 dX12_open_66 ?_
          refine g_iast S hK hP hD hS (hB0 6 _ rfl) (by first | assumption | exact vin_d (by decide) | exact vp_in_nI (by omega) (by decide) | decide) dX12_open_67 (fun w2 H locs hw hP hD hS => ?_)
          have hF := Same.set hF 6 hw (by decide)
          have hB0 : Blk w2 k (cM D α k mTaped mErr mPpl mBts ((f_X12_keeps mUs mW mUn).2) mRa mSt mKi mWd mVal mLet mFin mNp mNb mOuts mWant mFnd mTape mNum mNam mFst mBnm (upd (L_X12_open_32 mW mPpl.toNatClampNeg) 1 (((L_X12_open_32 mW mPpl.toNatClampNeg) 1) + 1)) ((f_X12_keeps mUs mW mUn).1) mSl mKp mnNum mnNam mnBo mnBn) := hB0.set 6 hw (Nat.le_of_ble_eq_true rfl) rfl
          refine lv_aload_n S.1 S.2.1 dX12_open_68 rfl (lv_at hl 1 rfl) ?_
          refine g_get (v := .ref (α (k + 6))) S hK hP (hB0 0 _ rfl) rfl inX12 9 (by decide) qw1383 rfl dX12_open_69 ?_
          refine lv_iconst (v := 2) S.1 S.2.1 dX12_open_72 (by decide) ?_
          refine lv_iconst (v := 1) S.1 S.2.1 dX12_open_73 (by decide) ?_
          refine g_iast S hK hP hD hS (hB0 6 _ rfl) (by first | assumption | exact vin_d (by decide) | exact vp_in_nI (by omega) (by decide) | decide) dX12_open_74 (fun w3 H locs hw hP hD hS => ?_)
          have hF := Same.set hF 6 hw (by decide)
          have hB0 : Blk w3 k (cM D α k mTaped mErr mPpl mBts ((f_X12_keeps mUs mW mUn).2) mRa mSt mKi mWd mVal mLet mFin mNp mNb mOuts mWant mFnd mTape mNum mNam mFst mBnm (upd (upd (L_X12_open_32 mW mPpl.toNatClampNeg) 1 (((L_X12_open_32 mW mPpl.toNatClampNeg) 1) + 1)) 2 1) ((f_X12_keeps mUs mW mUn).1) mSl mKp mnNum mnNam mnBo mnBn) := hB0.set 6 hw (Nat.le_of_ble_eq_true rfl) rfl
          refine lv_aload_n S.1 S.2.1 dX12_open_75 rfl (lv_at hl 1 rfl) ?_
          refine g_get (v := .ref (α (k + 6))) S hK hP (hB0 0 _ rfl) rfl inX12 9 (by decide) qw1383 rfl dX12_open_76 ?_
          refine lv_iconst (v := 3) S.1 S.2.1 dX12_open_79 (by decide) ?_
          refine lv_iload_n S.1 S.2.1 dX12_open_80 rfl (lv_at hl 2 rfl) ?_
          refine g_iast S hK hP hD hS (hB0 6 _ rfl) (by first | assumption | exact vin_d (by decide) | exact vp_in_nI (by omega) (by decide) | decide) dX12_open_81 (fun w4 H locs hw hP hD hS => ?_)
          have hF := Same.set hF 6 hw (by decide)
          have hB0 : Blk w4 k (cM D α k mTaped mErr mPpl mBts ((f_X12_keeps mUs mW mUn).2) mRa mSt mKi mWd mVal mLet mFin mNp mNb mOuts mWant mFnd mTape mNum mNam mFst mBnm (upd (upd (upd (L_X12_open_32 mW mPpl.toNatClampNeg) 1 (((L_X12_open_32 mW mPpl.toNatClampNeg) 1) + 1)) 2 1) 3 b) ((f_X12_keeps mUs mW mUn).1) mSl mKp mnNum mnNam mnBo mnBn) := hB0.set 6 hw (Nat.le_of_ble_eq_true rfl) rfl
          refine lv_aload_n S.1 S.2.1 dX12_open_82 rfl (lv_at hl 1 rfl) ?_
          refine g_get (v := .ref (α (k + 6))) S hK hP (hB0 0 _ rfl) rfl inX12 9 (by decide) qw1383 rfl dX12_open_83 ?_
          refine lv_bipush (v := 6) S.1 S.2.1 dX12_open_86 (by decide) ?_
          refine lv_iconst (v := 0) S.1 S.2.1 dX12_open_88 (by decide) ?_
          refine g_iast S hK hP hD hS (hB0 6 _ rfl) (by first | assumption | exact vin_d (by decide) | exact vp_in_nI (by omega) (by decide) | decide) dX12_open_89 (fun w5 H locs hw hP hD hS => ?_)
          have hF := Same.set hF 6 hw (by decide)
          have hB0 : Blk w5 k (cM D α k mTaped mErr mPpl mBts ((f_X12_keeps mUs mW mUn).2) mRa mSt mKi mWd mVal mLet mFin mNp mNb mOuts mWant mFnd mTape mNum mNam mFst mBnm (upd (upd (upd (upd (L_X12_open_32 mW mPpl.toNatClampNeg) 1 (((L_X12_open_32 mW mPpl.toNatClampNeg) 1) + 1)) 2 1) 3 b) 6 0) ((f_X12_keeps mUs mW mUn).1) mSl mKp mnNum mnNam mnBo mnBn) := hB0.set 6 hw (Nat.le_of_ble_eq_true rfl) rfl
          refine lv_aload_n S.1 S.2.1 dX12_open_90 rfl (lv_at hl 1 rfl) ?_
          refine g_get (v := .ref (α (k + 6))) S hK hP (hB0 0 _ rfl) rfl inX12 9 (by decide) qw1383 rfl dX12_open_91 ?_
          refine lv_bipush (v := 7) S.1 S.2.1 dX12_open_94 (by decide) ?_
          refine lv_iconst (v := 0) S.1 S.2.1 dX12_open_96 (by decide) ?_
          refine g_iast S hK hP hD hS (hB0 6 _ rfl) (by first | assumption | exact vin_d (by decide) | exact vp_in_nI (by omega) (by decide) | decide) dX12_open_97 (fun w6 H locs hw hP hD hS => ?_)
          have hF := Same.set hF 6 hw (by decide)
          have hB0 : Blk w6 k (cM D α k mTaped mErr mPpl mBts ((f_X12_keeps mUs mW mUn).2) mRa mSt mKi mWd mVal mLet mFin mNp mNb mOuts mWant mFnd mTape mNum mNam mFst mBnm (upd (upd (upd (upd (upd (L_X12_open_32 mW mPpl.toNatClampNeg) 1 (((L_X12_open_32 mW mPpl.toNatClampNeg) 1) + 1)) 2 1) 3 b) 6 0) 7 0) ((f_X12_keeps mUs mW mUn).1) mSl mKp mnNum mnNam mnBo mnBn) := hB0.set 6 hw (Nat.le_of_ble_eq_true rfl) rfl
          refine lv_aload_n S.1 S.2.1 dX12_open_98 rfl (lv_at hl 1 rfl) ?_
          refine lv_iconst (v := 2) S.1 S.2.1 dX12_open_99 (by decide) ?_
          refine lv_iload_n S.1 S.2.1 dX12_open_100 rfl (lv_at hl 0 rfl) ?_
          refine lv_iload_n S.1 S.2.1 dX12_open_101 rfl (lv_at hl 2 rfl) ?_
          refine g_aft0 (st1 := []) (g_V (As := [.int 2, .int ((L_X12_open_32 mW mPpl.toNatClampNeg) 1), .int b]) (rest := []) S mi_X12_tells qw1591 (c_X12_tells l D A w6 α (k) mTaped mErr mPpl mBts ((f_X12_keeps mUs mW mUn).2) mRa mSt mKi mWd mVal mLet mFin mNp mNb mOuts mWant mFnd mTape mNum mNam mFst mBnm (upd (upd (upd (upd (upd (L_X12_open_32 mW mPpl.toNatClampNeg) 1 (((L_X12_open_32 mW mPpl.toNatClampNeg) 1) + 1)) 2 1) 3 b) 6 0) 7 0) ((f_X12_keeps mUs mW mUn).1) mSl mKp mnNum mnNam mnBo mnBn 2 ((L_X12_open_32 mW mPpl.toNatClampNeg) 1) b hB0 (by exact (lg_upd (lg_upd (lg_upd (lg_upd (lg_upd (by rw [open_ne hy1 (Or.inl (by decide))]; exact hy2) (by decide)) (by decide)) (by decide)) (by decide)) (by decide)))) hK hP hD hE hS (hB0 0 _ rfl) rfl rfl rfl hl.1 (Nat.le_of_ble_eq_true rfl) rfl rfl ⟨(Nat.le_of_ble_eq_true rfl), (Nat.le_of_ble_eq_true rfl)⟩ ⟨(Nat.le_of_ble_eq_true rfl), (Nat.le_of_ble_eq_true rfl)⟩ dX12_open_102) hS rfl (fun w7 H locs hQ hP hD hS => ?_)
          have hF := hF.trans hQ.2
          have hB0 : Blk w7 k (cM D α k mTaped mErr mPpl mBts ((f_X12_keeps mUs mW mUn).2) mRa mSt mKi mWd mVal mLet mFin mNp mNb mOuts mWant mFnd mTape mNum mNam mFst mBnm (f_X12_tells (upd (upd (upd (upd (upd (L_X12_open_32 mW mPpl.toNatClampNeg) 1 (((L_X12_open_32 mW mPpl.toNatClampNeg) 1) + 1)) 2 1) 3 b) 6 0) 7 0) 2 ((L_X12_open_32 mW mPpl.toNatClampNeg) 1) b) ((f_X12_keeps mUs mW mUn).1) mSl mKp mnNum mnNam mnBo mnBn) := hQ.1
          refine lv_iload_n S.1 S.2.1 dX12_open_105 rfl (lv_at hl 0 rfl) ?_
          have hf : (f_X12_open mPpl mUs mW mUn b) = (((L_X12_open_32 mW mPpl.toNatClampNeg) 1), (f_X12_keeps mUs mW mUn).1, (f_X12_keeps mUs mW mUn).2, (f_X12_tells (upd (upd (upd (upd (upd (L_X12_open_32 mW mPpl.toNatClampNeg) 1 (((L_X12_open_32 mW mPpl.toNatClampNeg) 1) + 1)) 2 1) 3 b) 6 0) 7 0) 2 ((L_X12_open_32 mW mPpl.toNatClampNeg) 1) b)) := (cd_t c1).trans (cd_f c2)
          exact g_iret S hr hlk hP hD hS (by rw [hf] <;> rfl) (⟨by rw [hf]; exact hB0, hF⟩) dX12_open_106
        | succ j ih =>
          intro n hn wl H locs ls hP hD hS hF hB0 hl
          refine lv_iload_n S.1 S.2.1 dX12_open_32 rfl (lv_at hl 0 rfl) ?_
          refine lv_aload_n S.1 S.2.1 dX12_open_33 rfl (lv_at hl 1 rfl) ?_
          refine g_get (v := .int mPpl) S hK hP (hB0 0 _ rfl) rfl inX12 4 (by decide) qw1378 rfl dX12_open_34 ?_
          refine lv_icmp_ge (tgt := 51) S.1 S.2.1 dX12_open_37 (by decide) (fun (c4 : mPpl ≤ (nI n)) => absurd c4 (lp_in (s := 0) (rfl) hn)) (fun (c4 : ¬ mPpl ≤ (nI n)) => ?_)
          refine lv_aload_n S.1 S.2.1 dX12_open_40 rfl (lv_at hl 1 rfl) ?_
          refine lv_iload_n S.1 S.2.1 dX12_open_41 rfl (lv_at hl 0 rfl) ?_
          refine g_aft0 (st1 := []) (g_V (As := [.int (nI n)]) (rest := []) S mi_X12_isBackFromVote qw1625 (c_X12_isBackFromVote l D A wl α (k) mTaped mErr mPpl mBts ((f_X12_keeps mUs mW mUn).2) mRa mSt mKi mWd mVal mLet mFin mNp mNb mOuts mWant mFnd mTape mNum mNam mFst mBnm (L_X12_open_32 mW n) ((f_X12_keeps mUs mW mUn).1) mSl mKp mnNum mnNam mnBo mnBn (nI n) hB0 (by first | assumption | exact vin_d (by decide) | exact vp_in_nI (by omega) (by decide) | decide | omega)) hK hP hD hE hS (hB0 0 _ rfl) rfl rfl rfl hl.1 (Nat.le_of_ble_eq_true rfl) rfl rfl ⟨(Nat.le_of_ble_eq_true rfl), (Nat.le_of_ble_eq_true rfl)⟩ ⟨(Nat.le_of_ble_eq_true rfl), (Nat.le_of_ble_eq_true rfl)⟩ dX12_open_42) hS rfl (fun w8 H locs hQ hP hD hS => ?_)
          have hF := hF.trans hQ.2
          have hB0 : Blk w8 k (cM D α k mTaped mErr mPpl mBts ((f_X12_keeps mUs mW mUn).2) mRa mSt mKi mWd mVal mLet mFin mNp mNb mOuts mWant mFnd mTape mNum mNam mFst mBnm (f_X12_isBackFromVote (L_X12_open_32 mW n) (nI n)) ((f_X12_keeps mUs mW mUn).1) mSl mKp mnNum mnNam mnBo mnBn) := hQ.1
          refine lv_iinc (v := (nI (n + 1))) (lv' := [(2, .int (nI (n + 1))), (0, .ref (α (k))), (1, .int b)]) S.1 S.2.1 dX12_open_45 hl (k := 0) rfl ((nI_succ n).symm) (by decide) rfl (fun ls hl => ?_)
          refine lv_goto (tgt := 32) S.1 S.2.1 dX12_open_48 (by decide) ?_
          have hL : (L_X12_open_32 mW (n + 1)) = (f_X12_isBackFromVote (L_X12_open_32 mW n) (nI n)) := (iter_s _ _ _).trans (rfl)
          refine ih (n + 1) (by omega) _ _ _ _ hP hD hS hF ?_ ?_
          · rw [hL]; exact hB0
          · exact lv_sub hl [0, 1, 2] rfl
      have hL0 : (L_X12_open_32 mW 0) = mW := iter_z _ _
      exact lp32 mPpl.toNatClampNeg 0 (Nat.zero_add _) _ _ _ _ hP hD hS hF (by rw [hL0]; exact hB0) (lv_sub hl [0, 1, 2] rfl)
    · refine lv_bipush (v := (-5)) S.1 S.2.1 dX12_open_23 (by decide) ?_
      have hf : (f_X12_open mPpl mUs mW mUn b) = ((-5), mUn, mUs, mW) := (cd_t c1).trans (cd_t c2)
      exact g_iret S hr hlk hP hD hS (by rw [hf] <;> rfl) (⟨by rw [hf]; exact hB0, hF⟩) dX12_open_25
  · refine lv_iconst (v := (-1)) S.1 S.2.1 dX12_open_14 (by decide) ?_
    have hf : (f_X12_open mPpl mUs mW mUn b) = ((-1), mUn, mUs, mW) := cd_f c1
    exact g_iret S hr hlk hP hD hS (by rw [hf] <;> rfl) (⟨by rw [hf]; exact hB0, hF⟩) dX12_open_15
