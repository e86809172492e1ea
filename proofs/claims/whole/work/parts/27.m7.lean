def L_X12_keeps_54 (mUs : Int32) (mW : Nat → Int32) (mUn : Nat → Int32) : Nat → (Nat → Int32) := iter_ (fun n sn => (upd sn ((399 * mUs) + (nI n)).toNatClampNeg (mW (nI n).toNatClampNeg))) mUn
def L_X12_keeps_13 (mUn : Nat → Int32) : Nat → (Nat → Int32) := iter_ (fun n sn => (upd sn ((nI (n + 399)) - 399).toNatClampNeg (sn (nI (n + 399)).toNatClampNeg))) mUn
def L_X12_keeps_54a (mUs : Int32) (mW : Nat → Int32) (mUn : Nat → Int32) : Nat → (Nat → Int32) := iter_ (fun n sn => (upd sn ((399 * (mUs - 1)) + (nI n)).toNatClampNeg (mW (nI n).toNatClampNeg))) (L_X12_keeps_13 mUn 2793)
def f_X12_keeps (mUs : Int32) (mW : Nat → Int32) (mUn : Nat → Int32) : (Nat → Int32) × Int32 := (if mUs = 8 then ((L_X12_keeps_54a mUs mW mUn 399), ((mUs - 1) + 1)) else ((L_X12_keeps_54 mUs mW mUn 399), (mUs + 1)))
set_option maxHeartbeats 4000000 in
set_option maxRecDepth 100000 in
theorem c_X12_keeps (l : Launch) (D : va_G) (A : Nat → Prop) (w : va_W) (α : Nat → Nat) (k : Nat) (mTaped : Int32) (mErr : Int32) (mPpl : Int32) (mBts : Int32) (mUs : Int32) (mRa : Int32) (mSt : Int32) (mKi : Int32) (mWd : Int64) (mVal : Int32) (mLet : Int32) (mFin : Int32) (mNp : Int32) (mNb : Int32) (mOuts : Int32) (mWant : Int32) (mFnd : Int32) (mTape : Nat → Int32) (mNum : Nat → Int32) (mNam : Nat → Int32) (mFst : Nat → Int32) (mBnm : Nat → Int32) (mW : Nat → Int32) (mUn : Nat → Int32) (mSl : Nat → Int32) (mKp : Nat → Int32) (mnNum : Nat → Int32) (mnNam : Nat → Int32) (mnBo : Nat → Int32) (mnBn : Nat → Int32) (hB0 : Blk w k (cM D α k mTaped mErr mPpl mBts mUs mRa mSt mKi mWd mVal mLet mFin mNp mNb mOuts mWant mFnd mTape mNum mNam mFst mBnm mW mUn mSl mKp mnNum mnNam mnBo mnBn)) (hy0 : vp_in mUs 9) : Met l yX12_keeps (ws_ yX12_keeps cX12_keeps 2 none) ({ frames := 0, cells := 0, slots := 0, locals := 0 }) (gPre D A [.ref (α (k))] w) (gQ D A none (fun w1 => Blk w1 k (cM D α k mTaped mErr mPpl mBts ((f_X12_keeps mUs mW mUn).2) mRa mSt mKi mWd mVal mLet mFin mNp mNb mOuts mWant mFnd mTape mNum mNam mFst mBnm mW ((f_X12_keeps mUs mW mUn).1) mSl mKp mnNum mnNam mnBo mnBn) ∧ Same w w1 k 14)) 0 0 A := by
  refine g_met [(0, .ref (α (k)))] (plainFor_of_name (by decide)) (Nat.le_of_ble_eq_true rfl) rfl (fun pg en s mi ar below me co ls S hK hP hD hE hS hr hlk hnm hl => ?_)
  have hF : Same w w k 14 := Same.rf
  refine lv_aload_n S.1 S.2.1 dX12_keeps_0 rfl (lv_at hl 0 rfl) ?_
  refine g_get (v := .int mUs) S hK hP (hB0 0 _ rfl) rfl inX12 13 (by decide) qw1387 rfl dX12_keeps_1 ?_
  refine lv_bipush (v := 8) S.1 S.2.1 dX12_keeps_4 (by decide) ?_
  refine lv_icmp_ne (tgt := 52) S.1 S.2.1 dX12_keeps_6 (by decide) (fun (c1 : ¬ mUs = 8) => ?_) (fun (c1 : mUs = 8) => ?_)
  · refine lv_iconst (v := 0) S.1 S.2.1 dX12_keeps_52 (by decide) ?_
    refine lv_istore_n (lv' := [(1, .int 0), (0, .ref (α (k)))]) S.1 S.2.1 dX12_keeps_53 rfl hl (by decide) rfl (fun ls hl => ?_)
    have lp54 : ∀ (j n : Nat), n + j = 399 → ∀ (wl : va_W) (H : Heap) (locs : List Loc) (ls : Array Slot), va_P D vwCl wl H → va_D A wl → va_S A s.heap H locs → Same w wl k 14 → Blk wl k (cM D α k mTaped mErr mPpl mBts mUs mRa mSt mKi mWd mVal mLet mFin mNp mNb mOuts mWant mFnd mTape mNum mNam mFst mBnm mW (L_X12_keeps_54 mUs mW mUn n) mSl mKp mnNum mnNam mnBo mnBn) → lv_has ls 2 [(1, .int (nI n)), (0, .ref (α (k)))] → W pg l en ({ frames := 0, cells := 0, slots := 0, locals := 0 } : Room) s mi ar below me co H locs 0 0 (MQ below (gQ D A none (fun w1 => Blk w1 k (cM D α k mTaped mErr mPpl mBts ((f_X12_keeps mUs mW mUn).2) mRa mSt mKi mWd mVal mLet mFin mNp mNb mOuts mWant mFnd mTape mNum mNam mFst mBnm mW ((f_X12_keeps mUs mW mUn).1) mSl mKp mnNum mnNam mnBo mnBn) ∧ Same w w1 k 14)) ar s 0 0 A) (F0 mi 54 ls []) := by
      intro j
      induction j with
      | zero =>
        intro n hn wl H locs ls hP hD hS hF hB0 hl
        have hn : 399 = n := hn.symm
        subst hn
        refine lv_iload_n S.1 S.2.1 dX12_keeps_54 rfl (lv_at hl 0 rfl) ?_
        refine lv_sipush (v := 399) S.1 S.2.1 dX12_keeps_55 (by decide) ?_
        refine lv_icmp_ge (tgt := 88) S.1 S.2.1 dX12_keeps_58 (by decide) (fun (c2 : 399 ≤ (nI 399)) => ?_) (fun (c2 : ¬ 399 ≤ (nI 399)) => absurd c2 (lp_out (s := 0) (by decide)))
        refine lv_aload_n S.1 S.2.1 dX12_keeps_88 rfl (lv_at hl 1 rfl) ?_
        refine lv_dup S.1 S.2.1 dX12_keeps_89 rfl ?_
        refine g_get (v := .int mUs) S hK hP (hB0 0 _ rfl) rfl inX12 13 (by decide) qw1387 rfl dX12_keeps_90 ?_
        refine lv_iconst (v := 1) S.1 S.2.1 dX12_keeps_93 (by decide) ?_
        refine lv_iadd S.1 S.2.1 dX12_keeps_94 ?_
        refine g_put S hK hP hD hS (hB0 0 _ rfl) rfl inX12 tyX12_ok nmX12 13 (by decide) qw1387 rfl rfl rfl (Nat.le_of_ble_eq_true rfl) dX12_keeps_95 (fun w1 H locs hw hP hD hS => ?_)
        have hF := Same.set hF 0 hw (by decide)
        have hB0 : Blk w1 k (cM D α k mTaped mErr mPpl mBts (mUs + 1) mRa mSt mKi mWd mVal mLet mFin mNp mNb mOuts mWant mFnd mTape mNum mNam mFst mBnm mW (L_X12_keeps_54 mUs mW mUn 399) mSl mKp mnNum mnNam mnBo mnBn) := hB0.set 0 hw (Nat.le_of_ble_eq_true rfl) rfl
        have hf : (f_X12_keeps mUs mW mUn) = ((L_X12_keeps_54 mUs mW mUn 399), (mUs + 1)) := if_neg c1
        exact g_vret S hr hlk hP hD hS (rfl) (⟨by rw [hf]; exact hB0, hF⟩) dX12_keeps_98
      | succ j ih =>
        intro n hn wl H locs ls hP hD hS hF hB0 hl
        refine lv_iload_n S.1 S.2.1 dX12_keeps_54 rfl (lv_at hl 0 rfl) ?_
        refine lv_sipush (v := 399) S.1 S.2.1 dX12_keeps_55 (by decide) ?_
        refine lv_icmp_ge (tgt := 88) S.1 S.2.1 dX12_keeps_58 (by decide) (fun (c3 : 399 ≤ (nI n)) => absurd c3 (lp_in (s := 0) (by decide) hn)) (fun (c3 : ¬ 399 ≤ (nI n)) => ?_)
        refine lv_aload_n S.1 S.2.1 dX12_keeps_61 rfl (lv_at hl 1 rfl) ?_
        refine g_get (v := .ref (α (k + 7))) S hK hP (hB0 0 _ rfl) rfl inX12 10 (by decide) qw1384 rfl dX12_keeps_62 ?_
        refine lv_sipush (v := 399) S.1 S.2.1 dX12_keeps_65 (by decide) ?_
        refine lv_aload_n S.1 S.2.1 dX12_keeps_68 rfl (lv_at hl 1 rfl) ?_
        refine g_get (v := .int mUs) S hK hP (hB0 0 _ rfl) rfl inX12 13 (by decide) qw1387 rfl dX12_keeps_69 ?_
        refine lv_imul S.1 S.2.1 dX12_keeps_72 ?_
        refine lv_iload_n S.1 S.2.1 dX12_keeps_73 rfl (lv_at hl 0 rfl) ?_
        refine lv_iadd S.1 S.2.1 dX12_keeps_74 ?_
        refine lv_aload_n S.1 S.2.1 dX12_keeps_75 rfl (lv_at hl 1 rfl) ?_
        refine g_get (v := .ref (α (k + 6))) S hK hP (hB0 0 _ rfl) rfl inX12 9 (by decide) qw1383 rfl dX12_keeps_76 ?_
        refine lv_iload_n S.1 S.2.1 dX12_keeps_79 rfl (lv_at hl 0 rfl) ?_
        refine g_iald S hK hP (hB0 6 _ rfl) (by first | assumption | exact vin_d (by decide) | exact vp_in_nI (by omega) (by decide) | decide) dX12_keeps_80 ?_
        refine g_iast S hK hP hD hS (hB0 7 _ rfl) (by first | exact kp_in (kp_a (by assumption)) (by omega) (by decide) | exact kp_in (kp_b (by assumption) (by assumption)) (by omega) (by decide)) dX12_keeps_81 (fun w2 H locs hw hP hD hS => ?_)
        have hF := Same.set hF 7 hw (by decide)
        have hB0 : Blk w2 k (cM D α k mTaped mErr mPpl mBts mUs mRa mSt mKi mWd mVal mLet mFin mNp mNb mOuts mWant mFnd mTape mNum mNam mFst mBnm mW (upd (L_X12_keeps_54 mUs mW mUn n) ((399 * mUs) + (nI n)).toNatClampNeg (mW (nI n).toNatClampNeg)) mSl mKp mnNum mnNam mnBo mnBn) := hB0.set 7 hw (Nat.le_of_ble_eq_true rfl) rfl
        refine lv_iinc (v := (nI (n + 1))) (lv' := [(1, .int (nI (n + 1))), (0, .ref (α (k)))]) S.1 S.2.1 dX12_keeps_82 hl (k := 0) rfl ((nI_succ n).symm) (by decide) rfl (fun ls hl => ?_)
        refine lv_goto (tgt := 54) S.1 S.2.1 dX12_keeps_85 (by decide) ?_
        have hL : (L_X12_keeps_54 mUs mW mUn (n + 1)) = (upd (L_X12_keeps_54 mUs mW mUn n) ((399 * mUs) + (nI n)).toNatClampNeg (mW (nI n).toNatClampNeg)) := (iter_s _ _ _).trans (rfl)
        refine ih (n + 1) (by omega) _ _ _ _ hP hD hS hF ?_ ?_
        · rw [hL]; exact hB0
        · exact lv_sub hl [0, 1] rfl
    have hL0 : (L_X12_keeps_54 mUs mW mUn 0) = mUn := iter_z _ _
    exact lp54 399 0 (Nat.zero_add _) _ _ _ _ hP hD hS hF (by rw [hL0]; exact hB0) (lv_sub hl [0, 1] rfl)
  · refine lv_sipush (v := 399) S.1 S.2.1 dX12_keeps_9 (by decide) ?_
    refine lv_istore_n (lv' := [(1, .int 399), (0, .ref (α (k)))]) S.1 S.2.1 dX12_keeps_12 rfl hl (by decide) rfl (fun ls hl => ?_)
    have lp13 : ∀ (j n : Nat), n + j = 2793 → ∀ (wl : va_W) (H : Heap) (locs : List Loc) (ls : Array Slot), va_P D vwCl wl H → va_D A wl → va_S A s.heap H locs → Same w wl k 14 → Blk wl k (cM D α k mTaped mErr mPpl mBts mUs mRa mSt mKi mWd mVal mLet mFin mNp mNb mOuts mWant mFnd mTape mNum mNam mFst mBnm mW (L_X12_keeps_13 mUn n) mSl mKp mnNum mnNam mnBo mnBn) → lv_has ls 2 [(1, .int (nI (n + 399))), (0, .ref (α (k)))] → W pg l en ({ frames := 0, cells := 0, slots := 0, locals := 0 } : Room) s mi ar below me co H locs 0 0 (MQ below (gQ D A none (fun w1 => Blk w1 k (cM D α k mTaped mErr mPpl mBts ((f_X12_keeps mUs mW mUn).2) mRa mSt mKi mWd mVal mLet mFin mNp mNb mOuts mWant mFnd mTape mNum mNam mFst mBnm mW ((f_X12_keeps mUs mW mUn).1) mSl mKp mnNum mnNam mnBo mnBn) ∧ Same w w1 k 14)) ar s 0 0 A) (F0 mi 13 ls []) := by
      intro j
      induction j with
      | zero =>
        intro n hn wl H locs ls hP hD hS hF hB0 hl
        have hn : 2793 = n := hn.symm
        subst hn
        refine lv_iload_n S.1 S.2.1 dX12_keeps_13 rfl (lv_at hl 0 rfl) ?_
        refine lv_sipush (v := 3192) S.1 S.2.1 dX12_keeps_14 (by decide) ?_
        refine lv_icmp_ge (tgt := 42) S.1 S.2.1 dX12_keeps_17 (by decide) (fun (c4 : 3192 ≤ (nI (2793 + 399))) => ?_) (fun (c4 : ¬ 3192 ≤ (nI (2793 + 399))) => absurd c4 (lp_out (s := 399) (by decide)))
        refine lv_aload_n S.1 S.2.1 dX12_keeps_42 rfl (lv_at hl 1 rfl) ?_
        refine lv_dup S.1 S.2.1 dX12_keeps_43 rfl ?_
        refine g_get (v := .int mUs) S hK hP (hB0 0 _ rfl) rfl inX12 13 (by decide) qw1387 rfl dX12_keeps_44 ?_
        refine lv_iconst (v := 1) S.1 S.2.1 dX12_keeps_47 (by decide) ?_
        refine lv_isub S.1 S.2.1 dX12_keeps_48 ?_
        refine g_put S hK hP hD hS (hB0 0 _ rfl) rfl inX12 tyX12_ok nmX12 13 (by decide) qw1387 rfl rfl rfl (Nat.le_of_ble_eq_true rfl) dX12_keeps_49 (fun w3 H locs hw hP hD hS => ?_)
        have hF := Same.set hF 0 hw (by decide)
        have hB0 : Blk w3 k (cM D α k mTaped mErr mPpl mBts (mUs - 1) mRa mSt mKi mWd mVal mLet mFin mNp mNb mOuts mWant mFnd mTape mNum mNam mFst mBnm mW (L_X12_keeps_13 mUn 2793) mSl mKp mnNum mnNam mnBo mnBn) := hB0.set 0 hw (Nat.le_of_ble_eq_true rfl) rfl
        refine lv_iconst (v := 0) S.1 S.2.1 dX12_keeps_52 (by decide) ?_
        refine lv_istore_n (lv' := [(1, .int 0), (0, .ref (α (k)))]) S.1 S.2.1 dX12_keeps_53 rfl hl (by decide) rfl (fun ls hl => ?_)
        have lp54 : ∀ (j n : Nat), n + j = 399 → ∀ (wl : va_W) (H : Heap) (locs : List Loc) (ls : Array Slot), va_P D vwCl wl H → va_D A wl → va_S A s.heap H locs → Same w wl k 14 → Blk wl k (cM D α k mTaped mErr mPpl mBts (mUs - 1) mRa mSt mKi mWd mVal mLet mFin mNp mNb mOuts mWant mFnd mTape mNum mNam mFst mBnm mW (L_X12_keeps_54a mUs mW mUn n) mSl mKp mnNum mnNam mnBo mnBn) → lv_has ls 2 [(1, .int (nI n)), (0, .ref (α (k)))] → W pg l en ({ frames := 0, cells := 0, slots := 0, locals := 0 } : Room) s mi ar below me co H locs 0 0 (MQ below (gQ D A none (fun w1 => Blk w1 k (cM D α k mTaped mErr mPpl mBts ((f_X12_keeps mUs mW mUn).2) mRa mSt mKi mWd mVal mLet mFin mNp mNb mOuts mWant mFnd mTape mNum mNam mFst mBnm mW ((f_X12_keeps mUs mW mUn).1) mSl mKp mnNum mnNam mnBo mnBn) ∧ Same w w1 k 14)) ar s 0 0 A) (F0 mi 54 ls []) := by
          intro j
          induction j with
          | zero =>
            intro n hn wl H locs ls hP hD hS hF hB0 hl
            have hn : 399 = n := hn.symm
            subst hn
            refine lv_iload_n S.1 S.2.1 dX12_keeps_54 rfl (lv_at hl 0 rfl) ?_
            refine lv_sipush (v := 399) S.1 S.2.1 dX12_keeps_55 (by decide) ?_
            refine lv_icmp_ge (tgt := 88) S.1 S.2.1 dX12_keeps_58 (by decide) (fun (c5 : 399 ≤ (nI 399)) => ?_) (fun (c5 : ¬ 399 ≤ (nI 399)) => absurd c5 (lp_out (s := 0) (by decide)))
            refine lv_aload_n S.1 S.2.1 dX12_keeps_88 rfl (lv_at hl 1 rfl) ?_
            refine lv_dup S.1 S.2.1 dX12_keeps_89 rfl ?_
            refine g_get (v := .int (mUs - 1)) S hK hP (hB0 0 _ rfl) rfl inX12 13 (by decide) qw1387 rfl dX12_keeps_90 ?_
            refine lv_iconst (v := 1) S.1 S.2.1 dX12_keeps_93 (by decide) ?_
            refine lv_iadd S.1 S.2.1 dX12_keeps_94 ?_
            refine g_put S hK hP hD hS (hB0 0 _ rfl) rfl inX12 tyX12_ok nmX12 13 (by decide) qw1387 rfl rfl rfl (Nat.le_of_ble_eq_true rfl) dX12_keeps_95 (fun w4 H locs hw hP hD hS => ?_)
            have hF := Same.set hF 0 hw (by decide)
            have hB0 : Blk w4 k (cM D α k mTaped mErr mPpl mBts ((mUs - 1) + 1) mRa mSt mKi mWd mVal mLet mFin mNp mNb mOuts mWant mFnd mTape mNum mNam mFst mBnm mW (L_X12_keeps_54a mUs mW mUn 399) mSl mKp mnNum mnNam mnBo mnBn) := hB0.set 0 hw (Nat.le_of_ble_eq_true rfl) rfl
            have hf : (f_X12_keeps mUs mW mUn) = ((L_X12_keeps_54a mUs mW mUn 399), ((mUs - 1) + 1)) := if_pos c1
            exact g_vret S hr hlk hP hD hS (rfl) (⟨by rw [hf]; exact hB0, hF⟩) dX12_keeps_98
          | succ j ih =>
            intro n hn wl H locs ls hP hD hS hF hB0 hl
            refine lv_iload_n S.1 S.2.1 dX12_keeps_54 rfl (lv_at hl 0 rfl) ?_
            refine lv_sipush (v := 399) S.1 S.2.1 dX12_keeps_55 (by decide) ?_
            refine lv_icmp_ge (tgt := 88) S.1 S.2.1 dX12_keeps_58 (by decide) (fun (c6 : 399 ≤ (nI n)) => absurd c6 (lp_in (s := 0) (by decide) hn)) (fun (c6 : ¬ 399 ≤ (nI n)) => ?_)
            refine lv_aload_n S.1 S.2.1 dX12_keeps_61 rfl (lv_at hl 1 rfl) ?_
            refine g_get (v := .ref (α (k + 7))) S hK hP (hB0 0 _ rfl) rfl inX12 10 (by decide) qw1384 rfl dX12_keeps_62 ?_
            refine lv_sipush (v := 399) S.1 S.2.1 dX12_keeps_65 (by decide) ?_
            refine lv_aload_n S.1 S.2.1 dX12_keeps_68 rfl (lv_at hl 1 rfl) ?_
            refine g_get (v := .int (mUs - 1)) S hK hP (hB0 0 _ rfl) rfl inX12 13 (by decide) qw1387 rfl dX12_keeps_69 ?_
            refine lv_imul S.1 S.2.1 dX12_keeps_72 ?_
            refine lv_iload_n S.1 S.2.1 dX12_keeps_73 rfl (lv_at hl 0 rfl) ?_
            refine lv_iadd S.1 S.2.1 dX12_keeps_74 ?_
            refine lv_aload_n S.1 S.2.1 dX12_keeps_75 rfl (lv_at hl 1 rfl) ?_
            refine g_get (v := .ref (α (k + 6))) S hK hP (hB0 0 _ rfl) rfl inX12 9 (by decide) qw1383 rfl dX12_keeps_76 ?_
            refine lv_iload_n S.1 S.2.1 dX12_keeps_79 rfl (lv_at hl 0 rfl) ?_
            refine g_iald S hK hP (hB0 6 _ rfl) (by first | assumption | exact vin_d (by decide) | exact vp_in_nI (by omega) (by decide) | decide) dX12_keeps_80 ?_
            refine g_iast S hK hP hD hS (hB0 7 _ rfl) (by first | exact kp_in (kp_a (by assumption)) (by omega) (by decide) | exact kp_in (kp_b (by assumption) (by assumption)) (by omega) (by decide)) dX12_keeps_81 (fun w5 H locs hw hP hD hS => ?_)
            have hF := Same.set hF 7 hw (by decide)
            have hB0 : Blk w5 k (cM D α k mTaped mErr mPpl mBts (mUs - 1) mRa mSt mKi mWd mVal mLet mFin mNp mNb mOuts mWant mFnd mTape mNum mNam mFst mBnm mW (upd (L_X12_keeps_54a mUs mW mUn n) ((399 * (mUs - 1)) + (nI n)).toNatClampNeg (mW (nI n).toNatClampNeg)) mSl mKp mnNum mnNam mnBo mnBn) := hB0.set 7 hw (Nat.le_of_ble_eq_true rfl) rfl
            refine lv_iinc (v := (nI (n + 1))) (lv' := [(1, .int (nI (n + 1))), (0, .ref (α (k)))]) S.1 S.2.1 dX12_keeps_82 hl (k := 0) rfl ((nI_succ n).symm) (by decide) rfl (fun ls hl => ?_)
            refine lv_goto (tgt := 54) S.1 S.2.1 dX12_keeps_85 (by decide) ?_
            have hL : (L_X12_keeps_54a mUs mW mUn (n + 1)) = (upd (L_X12_keeps_54a mUs mW mUn n) ((399 * (mUs - 1)) + (nI n)).toNatClampNeg (mW (nI n).toNatClampNeg)) := (iter_s _ _ _).trans (rfl)
            refine ih (n + 1) (by omega) _ _ _ _ hP hD hS hF ?_ ?_
            · rw [hL]; exact hB0
            · exact lv_sub hl [0, 1] rfl
        have hL0 : (L_X12_keeps_54a mUs mW mUn 0) = (L_X12_keeps_13 mUn 2793) := iter_z _ _
        exact lp54 399 0 (Nat.zero_add _) _ _ _ _ hP hD hS hF (by rw [hL0]; exact hB0) (lv_sub hl [0, 1] rfl)
      | succ j ih =>
        intro n hn wl H locs ls hP hD hS hF hB0 hl
        refine lv_iload_n S.1 S.2.1 dX12_keeps_13 rfl (lv_at hl 0 rfl) ?_
        refine lv_sipush (v := 3192) S.1 S.2.1 dX12_keeps_14 (by decide) ?_
        refine lv_icmp_ge (tgt := 42) S.1 S.2.1 dX12_keeps_17 (by decide) (fun (c7 : 3192 ≤ (nI (n + 399))) => absurd c7 (lp_in (s := 399) (by decide) hn)) (fun (c7 : ¬ 3192 ≤ (nI (n + 399))) => ?_)
        refine lv_aload_n S.1 S.2.1 dX12_keeps_20 rfl (lv_at hl 1 rfl) ?_
        refine g_get (v := .ref (α (k + 7))) S hK hP (hB0 0 _ rfl) rfl inX12 10 (by decide) qw1384 rfl dX12_keeps_21 ?_
        refine lv_iload_n S.1 S.2.1 dX12_keeps_24 rfl (lv_at hl 0 rfl) ?_
        refine lv_sipush (v := 399) S.1 S.2.1 dX12_keeps_25 (by decide) ?_
        refine lv_isub S.1 S.2.1 dX12_keeps_28 ?_
        refine lv_aload_n S.1 S.2.1 dX12_keeps_29 rfl (lv_at hl 1 rfl) ?_
        refine g_get (v := .ref (α (k + 7))) S hK hP (hB0 0 _ rfl) rfl inX12 10 (by decide) qw1384 rfl dX12_keeps_30 ?_
        refine lv_iload_n S.1 S.2.1 dX12_keeps_33 rfl (lv_at hl 0 rfl) ?_
        refine g_iald S hK hP (hB0 7 _ rfl) (vp_in_nI (by omega) (by decide)) dX12_keeps_34 ?_
        refine g_iast S hK hP hD hS (hB0 7 _ rfl) ((kp_s (by omega)).1) dX12_keeps_35 (fun w6 H locs hw hP hD hS => ?_)
        have hF := Same.set hF 7 hw (by decide)
        have hB0 : Blk w6 k (cM D α k mTaped mErr mPpl mBts mUs mRa mSt mKi mWd mVal mLet mFin mNp mNb mOuts mWant mFnd mTape mNum mNam mFst mBnm mW (upd (L_X12_keeps_13 mUn n) ((nI (n + 399)) - 399).toNatClampNeg ((L_X12_keeps_13 mUn n) (nI (n + 399)).toNatClampNeg)) mSl mKp mnNum mnNam mnBo mnBn) := hB0.set 7 hw (Nat.le_of_ble_eq_true rfl) rfl
        refine lv_iinc (v := (nI (n + 400))) (lv' := [(1, .int (nI (n + 400))), (0, .ref (α (k)))]) S.1 S.2.1 dX12_keeps_36 hl (k := 0) rfl ((nI_succ (n + 399)).symm) (by decide) rfl (fun ls hl => ?_)
        refine lv_goto (tgt := 13) S.1 S.2.1 dX12_keeps_39 (by decide) ?_
        have hL : (L_X12_keeps_13 mUn (n + 1)) = (upd (L_X12_keeps_13 mUn n) ((nI (n + 399)) - 399).toNatClampNeg ((L_X12_keeps_13 mUn n) (nI (n + 399)).toNatClampNeg)) := (iter_s _ _ _).trans (rfl)
        refine ih (n + 1) (by omega) _ _ _ _ hP hD hS hF ?_ ?_
        · rw [hL]; exact hB0
        · exact lv_sub hl [0, 1] rfl
    have hL0 : (L_X12_keeps_13 mUn 0) = mUn := iter_z _ _
    exact lp13 2793 0 (Nat.zero_add _) _ _ _ _ hP hD hS hF (by rw [hL0]; exact hB0) (lv_sub hl [0, 1] rfl)
def L_X12_undo_21 (mUs : Int32) (mW : Nat → Int32) (mUn : Nat → Int32) : Nat → (Nat → Int32) := iter_ (fun n sn => (upd sn (nI n).toNatClampNeg (mUn ((399 * (mUs - 1)) + (nI n)).toNatClampNeg))) mW
def f_X12_undo (mUs : Int32) (mW : Nat → Int32) (mUn : Nat → Int32) : Int32 × Int32 × (Nat → Int32) := (if mUs = 0 then ((-1), mUs, mW) else ((mUs - 1), (mUs - 1), (L_X12_undo_21 mUs mW mUn 399)))
set_option maxHeartbeats 4000000 in
set_option maxRecDepth 100000 in
theorem c_X12_undo (l : Launch) (D : va_G) (A : Nat → Prop) (w : va_W) (α : Nat → Nat) (k : Nat) (mTaped : Int32) (mErr : Int32) (mPpl : Int32) (mBts : Int32) (mUs : Int32) (mRa : Int32) (mSt : Int32) (mKi : Int32) (mWd : Int64) (mVal : Int32) (mLet : Int32) (mFin : Int32) (mNp : Int32) (mNb : Int32) (mOuts : Int32) (mWant : Int32) (mFnd : Int32) (mTape : Nat → Int32) (mNum : Nat → Int32) (mNam : Nat → Int32) (mFst : Nat → Int32) (mBnm : Nat → Int32) (mW : Nat → Int32) (mUn : Nat → Int32) (mSl : Nat → Int32) (mKp : Nat → Int32) (mnNum : Nat → Int32) (mnNam : Nat → Int32) (mnBo : Nat → Int32) (mnBn : Nat → Int32) (hB0 : Blk w k (cM D α k mTaped mErr mPpl mBts mUs mRa mSt mKi mWd mVal mLet mFin mNp mNb mOuts mWant mFnd mTape mNum mNam mFst mBnm mW mUn mSl mKp mnNum mnNam mnBo mnBn)) (hy0 : vp_in mUs 9) : Met l yX12_undo (ws_ yX12_undo cX12_undo 2 (some .int)) ({ frames := 0, cells := 0, slots := 0, locals := 0 }) (gPre D A [.ref (α (k))] w) (gQ D A (some (.int (f_X12_undo mUs mW mUn).1)) (fun w1 => Blk w1 k (cM D α k mTaped mErr mPpl mBts ((f_X12_undo mUs mW mUn).2.1) mRa mSt mKi mWd mVal mLet mFin mNp mNb mOuts mWant mFnd mTape mNum mNam mFst mBnm ((f_X12_undo mUs mW mUn).2.2) mUn mSl mKp mnNum mnNam mnBo mnBn) ∧ Same w w1 k 14)) 0 0 A := by
  refine g_met [(0, .ref (α (k)))] (plainFor_of_name (by decide)) (Nat.le_of_ble_eq_true rfl) rfl (fun pg en s mi ar below me co ls S hK hP hD hE hS hr hlk hnm hl => ?_)
  have hF : Same w w k 14 := Same.rf
  refine lv_aload_n S.1 S.2.1 dX12_undo_0 rfl (lv_at hl 0 rfl) ?_
  refine g_get (v := .int mUs) S hK hP (hB0 0 _ rfl) rfl inX12 13 (by decide) qw1387 rfl dX12_undo_1 ?_
  refine lv_if_ne (tgt := 9) S.1 S.2.1 dX12_undo_4 (by decide) (fun (c1 : ¬ mUs = 0) => ?_) (fun (c1 : mUs = 0) => ?_)
  · refine lv_aload_n S.1 S.2.1 dX12_undo_9 rfl (lv_at hl 0 rfl) ?_
    refine lv_dup S.1 S.2.1 dX12_undo_10 rfl ?_
    refine g_get (v := .int mUs) S hK hP (hB0 0 _ rfl) rfl inX12 13 (by decide) qw1387 rfl dX12_undo_11 ?_
    refine lv_iconst (v := 1) S.1 S.2.1 dX12_undo_14 (by decide) ?_
    refine lv_isub S.1 S.2.1 dX12_undo_15 ?_
    refine g_put S hK hP hD hS (hB0 0 _ rfl) rfl inX12 tyX12_ok nmX12 13 (by decide) qw1387 rfl rfl rfl (Nat.le_of_ble_eq_true rfl) dX12_undo_16 (fun w1 H locs hw hP hD hS => ?_)
    have hF := Same.set hF 0 hw (by decide)
    have hB0 : Blk w1 k (cM D α k mTaped mErr mPpl mBts (mUs - 1) mRa mSt mKi mWd mVal mLet mFin mNp mNb mOuts mWant mFnd mTape mNum mNam mFst mBnm mW mUn mSl mKp mnNum mnNam mnBo mnBn) := hB0.set 0 hw (Nat.le_of_ble_eq_true rfl) rfl
    refine lv_iconst (v := 0) S.1 S.2.1 dX12_undo_19 (by decide) ?_
    refine lv_istore_n (lv' := [(1, .int 0), (0, .ref (α (k)))]) S.1 S.2.1 dX12_undo_20 rfl hl (by decide) rfl (fun ls hl => ?_)
    have lp21 : ∀ (j n : Nat), n + j = 399 → ∀ (wl : va_W) (H : Heap) (locs : List Loc) (ls : Array Slot), va_P D vwCl wl H → va_D A wl → va_S A s.heap H locs → Same w wl k 14 → Blk wl k (cM D α k mTaped mErr mPpl mBts (mUs - 1) mRa mSt mKi mWd mVal mLet mFin mNp mNb mOuts mWant mFnd mTape mNum mNam mFst mBnm (L_X12_undo_21 mUs mW mUn n) mUn mSl mKp mnNum mnNam mnBo mnBn) → lv_has ls 2 [(1, .int (nI n)), (0, .ref (α (k)))] → W pg l en ({ frames := 0, cells := 0, slots := 0, locals := 0 } : Room) s mi ar below me co H locs 0 0 (MQ below (gQ D A (some (.int (f_X12_undo mUs mW mUn).1)) (fun w1 => Blk w1 k (cM D α k mTaped mErr mPpl mBts ((f_X12_undo mUs mW mUn).2.1) mRa mSt mKi mWd mVal mLet mFin mNp mNb mOuts mWant mFnd mTape mNum mNam mFst mBnm ((f_X12_undo mUs mW mUn).2.2) mUn mSl mKp mnNum mnNam mnBo mnBn) ∧ Same w w1 k 14)) ar s 0 0 A) (F0 mi 21 ls []) := by
      intro j
      induction j with
      | zero =>
        intro n hn wl H locs ls hP hD hS hF hB0 hl
        have hn : 399 = n := hn.symm
        subst hn
        refine lv_iload_n S.1 S.2.1 dX12_undo_21 rfl (lv_at hl 0 rfl) ?_
        refine lv_sipush (v := 399) S.1 S.2.1 dX12_undo_22 (by decide) ?_
        refine lv_icmp_ge (tgt := 55) S.1 S.2.1 dX12_undo_25 (by decide) (fun (c2 : 399 ≤ (nI 399)) => ?_) (fun (c2 : ¬ 399 ≤ (nI 399)) => absurd c2 (lp_out (s := 0) (by decide)))
        refine lv_aload_n S.1 S.2.1 dX12_undo_55 rfl (lv_at hl 1 rfl) ?_
        refine g_get (v := .int (mUs - 1)) S hK hP (hB0 0 _ rfl) rfl inX12 13 (by decide) qw1387 rfl dX12_undo_56 ?_
        have hf : (f_X12_undo mUs mW mUn) = ((mUs - 1), (mUs - 1), (L_X12_undo_21 mUs mW mUn 399)) := if_neg c1
        exact g_iret S hr hlk hP hD hS (by rw [hf] <;> rfl) (⟨by rw [hf]; exact hB0, hF⟩) dX12_undo_59
      | succ j ih =>
        intro n hn wl H locs ls hP hD hS hF hB0 hl
        refine lv_iload_n S.1 S.2.1 dX12_undo_21 rfl (lv_at hl 0 rfl) ?_
        refine lv_sipush (v := 399) S.1 S.2.1 dX12_undo_22 (by decide) ?_
        refine lv_icmp_ge (tgt := 55) S.1 S.2.1 dX12_undo_25 (by decide) (fun (c3 : 399 ≤ (nI n)) => absurd c3 (lp_in (s := 0) (by decide) hn)) (fun (c3 : ¬ 399 ≤ (nI n)) => ?_)
        refine lv_aload_n S.1 S.2.1 dX12_undo_28 rfl (lv_at hl 1 rfl) ?_
        refine g_get (v := .ref (α (k + 6))) S hK hP (hB0 0 _ rfl) rfl inX12 9 (by decide) qw1383 rfl dX12_undo_29 ?_
        refine lv_iload_n S.1 S.2.1 dX12_undo_32 rfl (lv_at hl 0 rfl) ?_
        refine lv_aload_n S.1 S.2.1 dX12_undo_33 rfl (lv_at hl 1 rfl) ?_
        refine g_get (v := .ref (α (k + 7))) S hK hP (hB0 0 _ rfl) rfl inX12 10 (by decide) qw1384 rfl dX12_undo_34 ?_
        refine lv_sipush (v := 399) S.1 S.2.1 dX12_undo_37 (by decide) ?_
        refine lv_aload_n S.1 S.2.1 dX12_undo_40 rfl (lv_at hl 1 rfl) ?_
        refine g_get (v := .int (mUs - 1)) S hK hP (hB0 0 _ rfl) rfl inX12 13 (by decide) qw1387 rfl dX12_undo_41 ?_
        refine lv_imul S.1 S.2.1 dX12_undo_44 ?_
        refine lv_iload_n S.1 S.2.1 dX12_undo_45 rfl (lv_at hl 0 rfl) ?_
        refine lv_iadd S.1 S.2.1 dX12_undo_46 ?_
        refine g_iald S hK hP (hB0 7 _ rfl) (kp_in (kp_c (by assumption) (by assumption)) (by omega) (by decide)) dX12_undo_47 ?_
        refine g_iast S hK hP hD hS (hB0 6 _ rfl) (by first | assumption | exact vin_d (by decide) | exact vp_in_nI (by omega) (by decide) | decide) dX12_undo_48 (fun w2 H locs hw hP hD hS => ?_)
        have hF := Same.set hF 6 hw (by decide)
        have hB0 : Blk w2 k (cM D α k mTaped mErr mPpl mBts (mUs - 1) mRa mSt mKi mWd mVal mLet mFin mNp mNb mOuts mWant mFnd mTape mNum mNam mFst mBnm (upd (L_X12_undo_21 mUs mW mUn n) (nI n).toNatClampNeg (mUn ((399 * (mUs - 1)) + (nI n)).toNatClampNeg)) mUn mSl mKp mnNum mnNam mnBo mnBn) := hB0.set 6 hw (Nat.le_of_ble_eq_true rfl) rfl
        refine lv_iinc (v := (nI (n + 1))) (lv' := [(1, .int (nI (n + 1))), (0, .ref (α (k)))]) S.1 S.2.1 dX12_undo_49 hl (k := 0) rfl ((nI_succ n).symm) (by decide) rfl (fun ls hl => ?_)
        refine lv_goto (tgt := 21) S.1 S.2.1 dX12_undo_52 (by decide) ?_
        have hL : (L_X12_undo_21 mUs mW mUn (n + 1)) = (upd (L_X12_undo_21 mUs mW mUn n) (nI n).toNatClampNeg (mUn ((399 * (mUs - 1)) + (nI n)).toNatClampNeg)) := (iter_s _ _ _).trans (rfl)
        refine ih (n + 1) (by omega) _ _ _ _ hP hD hS hF ?_ ?_
        · rw [hL]; exact hB0
        · exact lv_sub hl [0, 1] rfl
    have hL0 : (L_X12_undo_21 mUs mW mUn 0) = mW := iter_z _ _
    exact lp21 399 0 (Nat.zero_add _) _ _ _ _ hP hD hS hF (by rw [hL0]; exact hB0) (lv_sub hl [0, 1] rfl)
  · refine lv_iconst (v := (-1)) S.1 S.2.1 dX12_undo_7 (by decide) ?_
    have hf : (f_X12_undo mUs mW mUn) = ((-1), mUs, mW) := if_pos c1
    exact g_iret S hr hlk hP hD hS (by rw [hf] <;> rfl) (⟨by rw [hf]; exact hB0, hF⟩) dX12_undo_8
def L_X12_keep_14 (mW : Nat → Int32) (mSl : Nat → Int32) (x : Int32) : Nat → (Nat → Int32) := iter_ (fun n sn => (upd sn ((399 * x) + (nI n)).toNatClampNeg (mW (nI n).toNatClampNeg))) mSl
def f_X12_keep (mW : Nat → Int32) (mSl : Nat → Int32) (mKp : Nat → Int32) (x : Int32) : Int32 × (Nat → Int32) × (Nat → Int32) := (bif (f_X12_in x.toInt64 0 1) then ((mW 0), (upd mKp x.toNatClampNeg (vp_nar .boolean 1)), (L_X12_keep_14 mW mSl x 399)) else ((-1), mKp, mSl))
set_option maxHeartbeats 4000000 in
set_option maxRecDepth 100000 in
theorem c_X12_keep (l : Launch) (D : va_G) (A : Nat → Prop) (w : va_W) (α : Nat → Nat) (k : Nat) (mTaped : Int32) (mErr : Int32) (mPpl : Int32) (mBts : Int32) (mUs : Int32) (mRa : Int32) (mSt : Int32) (mKi : Int32) (mWd : Int64) (mVal : Int32) (mLet : Int32) (mFin : Int32) (mNp : Int32) (mNb : Int32) (mOuts : Int32) (mWant : Int32) (mFnd : Int32) (mTape : Nat → Int32) (mNum : Nat → Int32) (mNam : Nat → Int32) (mFst : Nat → Int32) (mBnm : Nat → Int32) (mW : Nat → Int32) (mUn : Nat → Int32) (mSl : Nat → Int32) (mKp : Nat → Int32) (mnNum : Nat → Int32) (mnNam : Nat → Int32) (mnBo : Nat → Int32) (mnBn : Nat → Int32) (x : Int32) (hB0 : Blk w k (cM D α k mTaped mErr mPpl mBts mUs mRa mSt mKi mWd mVal mLet mFin mNp mNb mOuts mWant mFnd mTape mNum mNam mFst mBnm mW mUn mSl mKp mnNum mnNam mnBo mnBn)) : Met l yX12_keep (ws_ yX12_keep cX12_keep 3 (some .int)) ({ frames := 1, cells := 0, slots := 0, locals := 25 }) (gPre D A [.ref (α (k)), .int x] w) (gQ D A (some (.int (f_X12_keep mW mSl mKp x).1)) (fun w1 => Blk w1 k (cM D α k mTaped mErr mPpl mBts mUs mRa mSt mKi mWd mVal mLet mFin mNp mNb mOuts mWant mFnd mTape mNum mNam mFst mBnm mW mUn ((f_X12_keep mW mSl mKp x).2.2) ((f_X12_keep mW mSl mKp x).2.1) mnNum mnNam mnBo mnBn) ∧ Same w w1 k 14)) 0 0 A := by
  refine g_met [(0, .ref (α (k))), (1, .int x)] (plainFor_of_name (by decide)) (Nat.le_of_ble_eq_true rfl) rfl (fun pg en s mi ar below me co ls S hK hP hD hE hS hr hlk hnm hl => ?_)
  have hF : Same w w k 14 := Same.rf
  refine lv_iload_n S.1 S.2.1 dX12_keep_0 rfl (lv_at hl 1 rfl) ?_
  refine lv_i2l (v := x.toInt64) S.1 S.2.1 dX12_keep_1 rfl ?_
  refine lv_lconst (v := 0) S.1 S.2.1 dX12_keep_2 (by decide) ?_
  refine lv_lconst (v := 1) S.1 S.2.1 dX12_keep_3 (by decide) ?_
  refine g_aftR0 (st1 := [.int (b2i (f_X12_in x.toInt64 0 1))]) (g_St (As := [.long x.toInt64, .long 0, .long 1]) (rest := []) S ms_X12_in qw1477 (c_X12_in l D A w α x.toInt64 0 1) hK hP hD hE hS rfl rfl hl.1 (Nat.le_of_ble_eq_true rfl) rfl rfl ⟨(Nat.le_of_ble_eq_true rfl), (Nat.le_of_ble_eq_true rfl)⟩ ⟨(Nat.le_of_ble_eq_true rfl), (Nat.le_of_ble_eq_true rfl)⟩ dX12_keep_4) hS rfl (fun locs hS => ?_)
  refine g_bifne (b := (f_X12_in x.toInt64 0 1)) (tgt := 12) S dX12_keep_7 (by decide) (fun (c1 : (f_X12_in x.toInt64 0 1) = true) => ?_) (fun (c1 : (f_X12_in x.toInt64 0 1) = false) => ?_)
  · refine lv_iconst (v := 0) S.1 S.2.1 dX12_keep_12 (by decide) ?_
    refine lv_istore_n (lv' := [(2, .int 0), (0, .ref (α (k))), (1, .int x)]) S.1 S.2.1 dX12_keep_13 rfl hl (by decide) rfl (fun ls hl => ?_)
    have lp14 : ∀ (j n : Nat), n + j = 399 → ∀ (wl : va_W) (H : Heap) (locs : List Loc) (ls : Array Slot), va_P D vwCl wl H → va_D A wl → va_S A s.heap H locs → Same w wl k 14 → Blk wl k (cM D α k mTaped mErr mPpl mBts mUs mRa mSt mKi mWd mVal mLet mFin mNp mNb mOuts mWant mFnd mTape mNum mNam mFst mBnm mW mUn (L_X12_keep_14 mW mSl x n) mKp mnNum mnNam mnBo mnBn) → lv_has ls 3 [(2, .int (nI n)), (0, .ref (α (k))), (1, .int x)] → W pg l en ({ frames := 1, cells := 0, slots := 0, locals := 25 } : Room) s mi ar below me co H locs 0 0 (MQ below (gQ D A (some (.int (f_X12_keep mW mSl mKp x).1)) (fun w1 => Blk w1 k (cM D α k mTaped mErr mPpl mBts mUs mRa mSt mKi mWd mVal mLet mFin mNp mNb mOuts mWant mFnd mTape mNum mNam mFst mBnm mW mUn ((f_X12_keep mW mSl mKp x).2.2) ((f_X12_keep mW mSl mKp x).2.1) mnNum mnNam mnBo mnBn) ∧ Same w w1 k 14)) ar s 0 0 A) (F0 mi 14 ls []) := by
      intro j
      induction j with
      | zero =>
        intro n hn wl H locs ls hP hD hS hF hB0 hl
        have hn : 399 = n := hn.symm
        subst hn
        refine lv_iload_n S.1 S.2.1 dX12_keep_14 rfl (lv_at hl 0 rfl) ?_
        refine lv_sipush (v := 399) S.1 S.2.1 dX12_keep_15 (by decide) ?_
        refine lv_icmp_ge (tgt := 45) S.1 S.2.1 dX12_keep_18 (by decide) (fun (c2 : 399 ≤ (nI 399)) => ?_) (fun (c2 : ¬ 399 ≤ (nI 399)) => absurd c2 (lp_out (s := 0) (by decide)))
        refine lv_aload_n S.1 S.2.1 dX12_keep_45 rfl (lv_at hl 1 rfl) ?_
        refine g_get (v := .ref (α (k + 9))) S hK hP (hB0 0 _ rfl) rfl inX12 12 (by decide) qw1386 rfl dX12_keep_46 ?_
        refine lv_iload_n S.1 S.2.1 dX12_keep_49 rfl (lv_at hl 2 rfl) ?_
        refine lv_iconst (v := 1) S.1 S.2.1 dX12_keep_50 (by decide) ?_
        refine g_zast S hK hP hD hS (hB0 9 _ rfl) (in_vin (b := 1) (by decide) (by assumption)) dX12_keep_51 (fun w1 H locs hw hP hD hS => ?_)
        have hF := Same.set hF 9 hw (by decide)
        have hB0 : Blk w1 k (cM D α k mTaped mErr mPpl mBts mUs mRa mSt mKi mWd mVal mLet mFin mNp mNb mOuts mWant mFnd mTape mNum mNam mFst mBnm mW mUn (L_X12_keep_14 mW mSl x 399) (upd mKp x.toNatClampNeg (vp_nar .boolean 1)) mnNum mnNam mnBo mnBn) := hB0.set 9 hw (Nat.le_of_ble_eq_true rfl) rfl
        refine lv_aload_n S.1 S.2.1 dX12_keep_52 rfl (lv_at hl 1 rfl) ?_
        refine g_get (v := .ref (α (k + 6))) S hK hP (hB0 0 _ rfl) rfl inX12 9 (by decide) qw1383 rfl dX12_keep_53 ?_
        refine lv_iconst (v := 0) S.1 S.2.1 dX12_keep_56 (by decide) ?_
        refine g_iald S hK hP (hB0 6 _ rfl) (by first | assumption | exact vin_d (by decide) | exact vp_in_nI (by omega) (by decide) | decide) dX12_keep_57 ?_
        have hf : (f_X12_keep mW mSl mKp x) = ((mW 0), (upd mKp x.toNatClampNeg (vp_nar .boolean 1)), (L_X12_keep_14 mW mSl x 399)) := cd_t c1
        exact g_iret S hr hlk hP hD hS (by rw [hf] <;> rfl) (⟨by rw [hf]; exact hB0, hF⟩) dX12_keep_58
      | succ j ih =>
        intro n hn wl H locs ls hP hD hS hF hB0 hl
        refine lv_iload_n S.1 S.2.1 dX12_keep_14 rfl (lv_at hl 0 rfl) ?_
        refine lv_sipush (v := 399) S.1 S.2.1 dX12_keep_15 (by decide) ?_
        refine lv_icmp_ge (tgt := 45) S.1 S.2.1 dX12_keep_18 (by decide) (fun (c3 : 399 ≤ (nI n)) => absurd c3 (lp_in (s := 0) (by decide) hn)) (fun (c3 : ¬ 399 ≤ (nI n)) => ?_)
        refine lv_aload_n S.1 S.2.1 dX12_keep_21 rfl (lv_at hl 1 rfl) ?_
        refine g_get (v := .ref (α (k + 8))) S hK hP (hB0 0 _ rfl) rfl inX12 11 (by decide) qw1385 rfl dX12_keep_22 ?_
        refine lv_sipush (v := 399) S.1 S.2.1 dX12_keep_25 (by decide) ?_
        refine lv_iload_n S.1 S.2.1 dX12_keep_28 rfl (lv_at hl 2 rfl) ?_
        refine lv_imul S.1 S.2.1 dX12_keep_29 ?_
        refine lv_iload_n S.1 S.2.1 dX12_keep_30 rfl (lv_at hl 0 rfl) ?_
        refine lv_iadd S.1 S.2.1 dX12_keep_31 ?_
        refine lv_aload_n S.1 S.2.1 dX12_keep_32 rfl (lv_at hl 1 rfl) ?_
        refine g_get (v := .ref (α (k + 6))) S hK hP (hB0 0 _ rfl) rfl inX12 9 (by decide) qw1383 rfl dX12_keep_33 ?_
        refine lv_iload_n S.1 S.2.1 dX12_keep_36 rfl (lv_at hl 0 rfl) ?_
        refine g_iald S hK hP (hB0 6 _ rfl) (by first | assumption | exact vin_d (by decide) | exact vp_in_nI (by omega) (by decide) | decide) dX12_keep_37 ?_
        refine g_iast S hK hP hD hS (hB0 8 _ rfl) (kp_in (in_vin (b := 1) (n := 2) (by decide) (by assumption)) (by omega) (by decide)) dX12_keep_38 (fun w2 H locs hw hP hD hS => ?_)
        have hF := Same.set hF 8 hw (by decide)
        have hB0 : Blk w2 k (cM D α k mTaped mErr mPpl mBts mUs mRa mSt mKi mWd mVal mLet mFin mNp mNb mOuts mWant mFnd mTape mNum mNam mFst mBnm mW mUn (upd (L_X12_keep_14 mW mSl x n) ((399 * x) + (nI n)).toNatClampNeg (mW (nI n).toNatClampNeg)) mKp mnNum mnNam mnBo mnBn) := hB0.set 8 hw (Nat.le_of_ble_eq_true rfl) rfl
        refine lv_iinc (v := (nI (n + 1))) (lv' := [(2, .int (nI (n + 1))), (0, .ref (α (k))), (1, .int x)]) S.1 S.2.1 dX12_keep_39 hl (k := 0) rfl ((nI_succ n).symm) (by decide) rfl (fun ls hl => ?_)
        refine lv_goto (tgt := 14) S.1 S.2.1 dX12_keep_42 (by decide) ?_
        have hL : (L_X12_keep_14 mW mSl x (n + 1)) = (upd (L_X12_keep_14 mW mSl x n) ((399 * x) + (nI n)).toNatClampNeg (mW (nI n).toNatClampNeg)) := (iter_s _ _ _).trans (rfl)
        refine ih (n + 1) (by omega) _ _ _ _ hP hD hS hF ?_ ?_
        · rw [hL]; exact hB0
        · exact lv_sub hl [0, 1, 2] rfl
    have hL0 : (L_X12_keep_14 mW mSl x 0) = mSl := iter_z _ _
    exact lp14 399 0 (Nat.zero_add _) _ _ _ _ hP hD hS hF (by rw [hL0]; exact hB0) (lv_sub hl [0, 1, 2] rfl)
  · refine lv_iconst (v := (-1)) S.1 S.2.1 dX12_keep_10 (by decide) ?_
    have hf : (f_X12_keep mW mSl mKp x) = ((-1), mKp, mSl) := cd_f c1
    exact g_iret S hr hlk hP hD hS (by rw [hf] <;> rfl) (⟨by rw [hf]; exact hB0, hF⟩) dX12_keep_11
def L_X12_restore_30 (mW : Nat → Int32) (mSl : Nat → Int32) (x : Int32) : Nat → (Nat → Int32) := iter_ (fun n sn => (upd sn (nI n).toNatClampNeg (mSl ((399 * x) + (nI n)).toNatClampNeg))) mW
def f_X12_restore (mUs : Int32) (mW : Nat → Int32) (mUn : Nat → Int32) (mSl : Nat → Int32) (mKp : Nat → Int32) (x : Int32) : Int32 × (Nat → Int32) × Int32 × (Nat → Int32) := (bif (f_X12_in x.toInt64 0 1) then (if (mKp x.toNatClampNeg) = 0 then ((-2), mUn, mUs, mW) else (((L_X12_restore_30 mW mSl x 399) 0), (f_X12_keeps mUs mW mUn).1, (f_X12_keeps mUs mW mUn).2, (L_X12_restore_30 mW mSl x 399))) else ((-1), mUn, mUs, mW))
set_option maxHeartbeats 4000000 in
set_option maxRecDepth 100000 in
theorem c_X12_restore (l : Launch) (D : va_G) (A : Nat → Prop) (w : va_W) (α : Nat → Nat) (k : Nat) (mTaped : Int32) (mErr : Int32) (mPpl : Int32) (mBts : Int32) (mUs : Int32) (mRa : Int32) (mSt : Int32) (mKi : Int32) (mWd : Int64) (mVal : Int32) (mLet : Int32) (mFin : Int32) (mNp : Int32) (mNb : Int32) (mOuts : Int32) (mWant : Int32) (mFnd : Int32) (mTape : Nat → Int32) (mNum : Nat → Int32) (mNam : Nat → Int32) (mFst : Nat → Int32) (mBnm : Nat → Int32) (mW : Nat → Int32) (mUn : Nat → Int32) (mSl : Nat → Int32) (mKp : Nat → Int32) (mnNum : Nat → Int32) (mnNam : Nat → Int32) (mnBo : Nat → Int32) (mnBn : Nat → Int32) (x : Int32) (hB0 : Blk w k (cM D α k mTaped mErr mPpl mBts mUs mRa mSt mKi mWd mVal mLet mFin mNp mNb mOuts mWant mFnd mTape mNum mNam mFst mBnm mW mUn mSl mKp mnNum mnNam mnBo mnBn)) (hy0 : vp_in mUs 9) : Met l yX12_restore (ws_ yX12_restore cX12_restore 3 (some .int)) ({ frames := 1, cells := 0, slots := 0, locals := 25 }) (gPre D A [.ref (α (k)), .int x] w) (gQ D A (some (.int (f_X12_restore mUs mW mUn mSl mKp x).1)) (fun w1 => Blk w1 k (cM D α k mTaped mErr mPpl mBts ((f_X12_restore mUs mW mUn mSl mKp x).2.2.1) mRa mSt mKi mWd mVal mLet mFin mNp mNb mOuts mWant mFnd mTape mNum mNam mFst mBnm ((f_X12_restore mUs mW mUn mSl mKp x).2.2.2) ((f_X12_restore mUs mW mUn mSl mKp x).2.1) mSl mKp mnNum mnNam mnBo mnBn) ∧ Same w w1 k 14)) 0 0 A := by
  refine g_met [(0, .ref (α (k))), (1, .int x)] (plainFor_of_name (by decide)) (Nat.le_of_ble_eq_true rfl) rfl (fun pg en s mi ar below me co ls S hK hP hD hE hS hr hlk hnm hl => ?_)
  have hF : Same w w k 14 := Same.rf
  refine lv_iload_n S.1 S.2.1 dX12_restore_0 rfl (lv_at hl 1 rfl) ?_
  refine lv_i2l (v := x.toInt64) S.1 S.2.1 dX12_restore_1 rfl ?_
  refine lv_lconst (v := 0) S.1 S.2.1 dX12_restore_2 (by decide) ?_
  refine lv_lconst (v := 1) S.1 S.2.1 dX12_restore_3 (by decide) ?_
  refine g_aftR0 (st1 := [.int (b2i (f_X12_in x.toInt64 0 1))]) (g_St (As := [.long x.toInt64, .long 0, .long 1]) (rest := []) S ms_X12_in qw1477 (c_X12_in l D A w α x.toInt64 0 1) hK hP hD hE hS rfl rfl hl.1 (Nat.le_of_ble_eq_true rfl) rfl rfl ⟨(Nat.le_of_ble_eq_true rfl), (Nat.le_of_ble_eq_true rfl)⟩ ⟨(Nat.le_of_ble_eq_true rfl), (Nat.le_of_ble_eq_true rfl)⟩ dX12_restore_4) hS rfl (fun locs hS => ?_)
  refine g_bifne (b := (f_X12_in x.toInt64 0 1)) (tgt := 12) S dX12_restore_7 (by decide) (fun (c1 : (f_X12_in x.toInt64 0 1) = true) => ?_) (fun (c1 : (f_X12_in x.toInt64 0 1) = false) => ?_)
  · refine lv_aload_n S.1 S.2.1 dX12_restore_12 rfl (lv_at hl 0 rfl) ?_
    refine g_get (v := .ref (α (k + 9))) S hK hP (hB0 0 _ rfl) rfl inX12 12 (by decide) qw1386 rfl dX12_restore_13 ?_
    refine lv_iload_n S.1 S.2.1 dX12_restore_16 rfl (lv_at hl 1 rfl) ?_
    refine g_zald S hK hP (hB0 9 _ rfl) (in_vin (b := 1) (by decide) (by assumption)) dX12_restore_17 ?_
    refine lv_if_ne (tgt := 24) S.1 S.2.1 dX12_restore_18 (by decide) (fun (c2 : ¬ (mKp x.toNatClampNeg) = 0) => ?_) (fun (c2 : (mKp x.toNatClampNeg) = 0) => ?_)
    · refine lv_aload_n S.1 S.2.1 dX12_restore_24 rfl (lv_at hl 0 rfl) ?_
      refine g_aft0 (st1 := []) (g_V (As := []) (rest := []) S mi_X12_keeps qw1575 (c_X12_keeps l D A w α (k) mTaped mErr mPpl mBts mUs mRa mSt mKi mWd mVal mLet mFin mNp mNb mOuts mWant mFnd mTape mNum mNam mFst mBnm mW mUn mSl mKp mnNum mnNam mnBo mnBn hB0 (by first | assumption | exact vin_d (by decide) | exact vp_in_nI (by omega) (by decide) | decide | omega)) hK hP hD hE hS (hB0 0 _ rfl) rfl rfl rfl hl.1 (Nat.le_of_ble_eq_true rfl) rfl rfl ⟨(Nat.le_of_ble_eq_true rfl), (Nat.le_of_ble_eq_true rfl)⟩ ⟨(Nat.le_of_ble_eq_true rfl), (Nat.le_of_ble_eq_true rfl)⟩ dX12_restore_25) hS rfl (fun w1 H locs hQ hP hD hS => ?_)
      have hF := hF.trans hQ.2
      have hB0 : Blk w1 k (cM D α k mTaped mErr mPpl mBts ((f_X12_keeps mUs mW mUn).2) mRa mSt mKi mWd mVal mLet mFin mNp mNb mOuts mWant mFnd mTape mNum mNam mFst mBnm mW ((f_X12_keeps mUs mW mUn).1) mSl mKp mnNum mnNam mnBo mnBn) := hQ.1
      refine lv_iconst (v := 0) S.1 S.2.1 dX12_restore_28 (by decide) ?_
      refine lv_istore_n (lv' := [(2, .int 0), (0, .ref (α (k))), (1, .int x)]) S.1 S.2.1 dX12_restore_29 rfl hl (by decide) rfl (fun ls hl => ?_)
      have lp30 : ∀ (j n : Nat), n + j = 399 → ∀ (wl : va_W) (H : Heap) (locs : List Loc) (ls : Array Slot), va_P D vwCl wl H → va_D A wl → va_S A s.heap H locs → Same w wl k 14 → Blk wl k (cM D α k mTaped mErr mPpl mBts ((f_X12_keeps mUs mW mUn).2) mRa mSt mKi mWd mVal mLet mFin mNp mNb mOuts mWant mFnd mTape mNum mNam mFst mBnm (L_X12_restore_30 mW mSl x n) ((f_X12_keeps mUs mW mUn).1) mSl mKp mnNum mnNam mnBo mnBn) → lv_has ls 3 [(2, .int (nI n)), (0, .ref (α (k))), (1, .int x)] → W pg l en ({ frames := 1, cells := 0, slots := 0, locals := 25 } : Room) s mi ar below me co H locs 0 0 (MQ below (gQ D A (some (.int (f_X12_restore mUs mW mUn mSl mKp x).1)) (fun w1 => Blk w1 k (cM D α k mTaped mErr mPpl mBts ((f_X12_restore mUs mW mUn mSl mKp x).2.2.1) mRa mSt mKi mWd mVal mLet mFin mNp mNb mOuts mWant mFnd mTape mNum mNam mFst mBnm ((f_X12_restore mUs mW mUn mSl mKp x).2.2.2) ((f_X12_restore mUs mW mUn mSl mKp x).2.1) mSl mKp mnNum mnNam mnBo mnBn) ∧ Same w w1 k 14)) ar s 0 0 A) (F0 mi 30 ls []) := by
        intro j
        induction j with
        | zero =>
          intro n hn wl H locs ls hP hD hS hF hB0 hl
          have hn : 399 = n := hn.symm
          subst hn
          refine lv_iload_n S.1 S.2.1 dX12_restore_30 rfl (lv_at hl 0 rfl) ?_
          refine lv_sipush (v := 399) S.1 S.2.1 dX12_restore_31 (by decide) ?_
          refine lv_icmp_ge (tgt := 61) S.1 S.2.1 dX12_restore_34 (by decide) (fun (c3 : 399 ≤ (nI 399)) => ?_) (fun (c3 : ¬ 399 ≤ (nI 399)) => absurd c3 (lp_out (s := 0) (by decide)))
          refine lv_aload_n S.1 S.2.1 dX12_restore_61 rfl (lv_at hl 1 rfl) ?_
          refine g_get (v := .ref (α (k + 6))) S hK hP (hB0 0 _ rfl) rfl inX12 9 (by decide) qw1383 rfl dX12_restore_62 ?_
          refine lv_iconst (v := 0) S.1 S.2.1 dX12_restore_65 (by decide) ?_
          refine g_iald S hK hP (hB0 6 _ rfl) (by first | assumption | exact vin_d (by decide) | exact vp_in_nI (by omega) (by decide) | decide) dX12_restore_66 ?_
          have hf : (f_X12_restore mUs mW mUn mSl mKp x) = (((L_X12_restore_30 mW mSl x 399) 0), (f_X12_keeps mUs mW mUn).1, (f_X12_keeps mUs mW mUn).2, (L_X12_restore_30 mW mSl x 399)) := (cd_t c1).trans (if_neg c2)
          exact g_iret S hr hlk hP hD hS (by rw [hf] <;> rfl) (⟨by rw [hf]; exact hB0, hF⟩) dX12_restore_67
        | succ j ih =>
          intro n hn wl H locs ls hP hD hS hF hB0 hl
          refine lv_iload_n S.1 S.2.1 dX12_restore_30 rfl (lv_at hl 0 rfl) ?_
          refine lv_sipush (v := 399) S.1 S.2.1 dX12_restore_31 (by decide) ?_
          refine lv_icmp_ge (tgt := 61) S.1 S.2.1 dX12_restore_34 (by decide) (fun (c4 : 399 ≤ (nI n)) => absurd c4 (lp_in (s := 0) (by decide) hn)) (fun (c4 : ¬ 399 ≤ (nI n)) => ?_)
          refine lv_aload_n S.1 S.2.1 dX12_restore_37 rfl (lv_at hl 1 rfl) ?_
          refine g_get (v := .ref (α (k + 6))) S hK hP (hB0 0 _ rfl) rfl inX12 9 (by decide) qw1383 rfl dX12_restore_38 ?_
          refine lv_iload_n S.1 S.2.1 dX12_restore_41 rfl (lv_at hl 0 rfl) ?_
          refine lv_aload_n S.1 S.2.1 dX12_restore_42 rfl (lv_at hl 1 rfl) ?_
          refine g_get (v := .ref (α (k + 8))) S hK hP (hB0 0 _ rfl) rfl inX12 11 (by decide) qw1385 rfl dX12_restore_43 ?_
          refine lv_sipush (v := 399) S.1 S.2.1 dX12_restore_46 (by decide) ?_
          refine lv_iload_n S.1 S.2.1 dX12_restore_49 rfl (lv_at hl 2 rfl) ?_
          refine lv_imul S.1 S.2.1 dX12_restore_50 ?_
          refine lv_iload_n S.1 S.2.1 dX12_restore_51 rfl (lv_at hl 0 rfl) ?_
          refine lv_iadd S.1 S.2.1 dX12_restore_52 ?_
          refine g_iald S hK hP (hB0 8 _ rfl) (kp_in (in_vin (b := 1) (n := 2) (by decide) (by assumption)) (by omega) (by decide)) dX12_restore_53 ?_
          refine g_iast S hK hP hD hS (hB0 6 _ rfl) (by first | assumption | exact vin_d (by decide) | exact vp_in_nI (by omega) (by decide) | decide) dX12_restore_54 (fun w2 H locs hw hP hD hS => ?_)
          have hF := Same.set hF 6 hw (by decide)
          have hB0 : Blk w2 k (cM D α k mTaped mErr mPpl mBts ((f_X12_keeps mUs mW mUn).2) mRa mSt mKi mWd mVal mLet mFin mNp mNb mOuts mWant mFnd mTape mNum mNam mFst mBnm (upd (L_X12_restore_30 mW mSl x n) (nI n).toNatClampNeg (mSl ((399 * x) + (nI n)).toNatClampNeg)) ((f_X12_keeps mUs mW mUn).1) mSl mKp mnNum mnNam mnBo mnBn) := hB0.set 6 hw (Nat.le_of_ble_eq_true rfl) rfl
          refine lv_iinc (v := (nI (n + 1))) (lv' := [(2, .int (nI (n + 1))), (0, .ref (α (k))), (1, .int x)]) S.1 S.2.1 dX12_restore_55 hl (k := 0) rfl ((nI_succ n).symm) (by decide) rfl (fun ls hl => ?_)
          refine lv_goto (tgt := 30) S.1 S.2.1 dX12_restore_58 (by decide) ?_
          have hL : (L_X12_restore_30 mW mSl x (n + 1)) = (upd (L_X12_restore_30 mW mSl x n) (nI n).toNatClampNeg (mSl ((399 * x) + (nI n)).toNatClampNeg)) := (iter_s _ _ _).trans (rfl)
          refine ih (n + 1) (by omega) _ _ _ _ hP hD hS hF ?_ ?_
          · rw [hL]; exact hB0
          · exact lv_sub hl [0, 1, 2] rfl
      have hL0 : (L_X12_restore_30 mW mSl x 0) = mW := iter_z _ _
      exact lp30 399 0 (Nat.zero_add _) _ _ _ _ hP hD hS hF (by rw [hL0]; exact hB0) (lv_sub hl [0, 1, 2] rfl)
    · refine lv_bipush (v := (-2)) S.1 S.2.1 dX12_restore_21 (by decide) ?_
      have hf : (f_X12_restore mUs mW mUn mSl mKp x) = ((-2), mUn, mUs, mW) := (cd_t c1).trans (if_pos c2)
      exact g_iret S hr hlk hP hD hS (by rw [hf] <;> rfl) (⟨by rw [hf]; exact hB0, hF⟩) dX12_restore_23
  · refine lv_iconst (v := (-1)) S.1 S.2.1 dX12_restore_10 (by decide) ?_
    have hf : (f_X12_restore mUs mW mUn mSl mKp x) = ((-1), mUn, mUs, mW) := cd_f c1
    exact g_iret S hr hlk hP hD hS (by rw [hf] <;> rfl) (⟨by rw [hf]; exact hB0, hF⟩) dX12_restore_11
def f_X12_delay (mBts : Int32) (mUs : Int32) (mW : Nat → Int32) (mUn : Nat → Int32) (b : Int32) (d : Int32) : Int32 × (Nat → Int32) × Int32 × (Nat → Int32) := (bif (f_X12_isBoat mBts b) then (bif (f_X12_in d.toInt64 1 99) then (bif (f_X12_isOut mW b) then ((f_X12_ofBoat (f_X12_setsBoat mW b 1 ((f_X12_ofBoat mW b 1) + d)) b 1), (f_X12_keeps mUs mW mUn).1, (f_X12_keeps mUs mW mUn).2, (f_X12_setsBoat mW b 1 ((f_X12_ofBoat mW b 1) + d))) else ((-4), mUn, mUs, mW)) else ((-1), mUn, mUs, mW)) else ((-1), mUn, mUs, mW))
set_option maxHeartbeats 4000000 in
set_option maxRecDepth 100000 in
theorem c_X12_delay (l : Launch) (D : va_G) (A : Nat → Prop) (w : va_W) (α : Nat → Nat) (k : Nat) (mTaped : Int32) (mErr : Int32) (mPpl : Int32) (mBts : Int32) (mUs : Int32) (mRa : Int32) (mSt : Int32) (mKi : Int32) (mWd : Int64) (mVal : Int32) (mLet : Int32) (mFin : Int32) (mNp : Int32) (mNb : Int32) (mOuts : Int32) (mWant : Int32) (mFnd : Int32) (mTape : Nat → Int32) (mNum : Nat → Int32) (mNam : Nat → Int32) (mFst : Nat → Int32) (mBnm : Nat → Int32) (mW : Nat → Int32) (mUn : Nat → Int32) (mSl : Nat → Int32) (mKp : Nat → Int32) (mnNum : Nat → Int32) (mnNam : Nat → Int32) (mnBo : Nat → Int32) (mnBn : Nat → Int32) (b : Int32) (d : Int32) (hB0 : Blk w k (cM D α k mTaped mErr mPpl mBts mUs mRa mSt mKi mWd mVal mLet mFin mNp mNb mOuts mWant mFnd mTape mNum mNam mFst mBnm mW mUn mSl mKp mnNum mnNam mnBo mnBn)) (hy0 : vp_in mUs 9) (hy1 : vp_in mBts 7) : Met l yX12_delay (ws_ yX12_delay cX12_delay 3 (some .int)) ({ frames := 2, cells := 0, slots := 0, locals := 46 }) (gPre D A [.ref (α (k)), .int b, .int d] w) (gQ D A (some (.int (f_X12_delay mBts mUs mW mUn b d).1)) (fun w1 => Blk w1 k (cM D α k mTaped mErr mPpl mBts ((f_X12_delay mBts mUs mW mUn b d).2.2.1) mRa mSt mKi mWd mVal mLet mFin mNp mNb mOuts mWant mFnd mTape mNum mNam mFst mBnm ((f_X12_delay mBts mUs mW mUn b d).2.2.2) ((f_X12_delay mBts mUs mW mUn b d).2.1) mSl mKp mnNum mnNam mnBo mnBn) ∧ Same w w1 k 14)) 0 0 A := by
  refine g_met [(0, .ref (α (k))), (1, .int b), (2, .int d)] (plainFor_of_name (by decide)) (Nat.le_of_ble_eq_true rfl) rfl (fun pg en s mi ar below me co ls S hK hP hD hE hS hr hlk hnm hl => ?_)
  have hF : Same w w k 14 := Same.rf
  refine lv_aload_n S.1 S.2.1 dX12_delay_0 rfl (lv_at hl 0 rfl) ?_
  refine lv_iload_n S.1 S.2.1 dX12_delay_1 rfl (lv_at hl 1 rfl) ?_
  refine g_aftR0 (st1 := [.int (b2i (f_X12_isBoat mBts b))]) (g_V (As := [.int b]) (rest := []) S mi_X12_isBoat qw1562 (c_X12_isBoat l D A w α (k) mTaped mErr mPpl mBts mUs mRa mSt mKi mWd mVal mLet mFin mNp mNb mOuts mWant mFnd mTape mNum mNam mFst mBnm mW mUn mSl mKp mnNum mnNam mnBo mnBn b hB0) hK hP hD hE hS (hB0 0 _ rfl) rfl rfl rfl hl.1 (Nat.le_of_ble_eq_true rfl) rfl rfl ⟨(Nat.le_of_ble_eq_true rfl), (Nat.le_of_ble_eq_true rfl)⟩ ⟨(Nat.le_of_ble_eq_true rfl), (Nat.le_of_ble_eq_true rfl)⟩ dX12_delay_2) hS rfl (fun locs hS => ?_)
  refine g_bifeq (b := (f_X12_isBoat mBts b)) (tgt := 20) S dX12_delay_5 (by decide) (fun (c1 : (f_X12_isBoat mBts b) = false) => ?_) (fun (c1 : (f_X12_isBoat mBts b) = true) => ?_)
  · refine lv_iconst (v := (-1)) S.1 S.2.1 dX12_delay_20 (by decide) ?_
    have hf : (f_X12_delay mBts mUs mW mUn b d) = ((-1), mUn, mUs, mW) := cd_f c1
    exact g_iret S hr hlk hP hD hS (by rw [hf] <;> rfl) (⟨by rw [hf]; exact hB0, hF⟩) dX12_delay_21
  · have hh1 := isBoat_in (by assumption) c1
    refine lv_iload_n S.1 S.2.1 dX12_delay_8 rfl (lv_at hl 2 rfl) ?_
    refine lv_i2l (v := d.toInt64) S.1 S.2.1 dX12_delay_9 rfl ?_
    refine lv_lconst (v := 1) S.1 S.2.1 dX12_delay_10 (by decide) ?_
    refine lv_ldc2 (v := 99) S.1 S.2.1 S.2.2.2.1 (S.2.2.2.2 _ qw1566) dX12_delay_11 ?_
    refine g_aftR0 (st1 := [.int (b2i (f_X12_in d.toInt64 1 99))]) (g_St (As := [.long d.toInt64, .long 1, .long 99]) (rest := []) S ms_X12_in qw1477 (c_X12_in l D A w α d.toInt64 1 99) hK hP hD hE hS rfl rfl hl.1 (Nat.le_of_ble_eq_true rfl) rfl rfl ⟨(Nat.le_of_ble_eq_true rfl), (Nat.le_of_ble_eq_true rfl)⟩ ⟨(Nat.le_of_ble_eq_true rfl), (Nat.le_of_ble_eq_true rfl)⟩ dX12_delay_14) hS rfl (fun locs hS => ?_)
    refine g_bifne (b := (f_X12_in d.toInt64 1 99)) (tgt := 22) S dX12_delay_17 (by decide) (fun (c2 : (f_X12_in d.toInt64 1 99) = true) => ?_) (fun (c2 : (f_X12_in d.toInt64 1 99) = false) => ?_)
    · refine lv_aload_n S.1 S.2.1 dX12_delay_22 rfl (lv_at hl 0 rfl) ?_
      refine lv_iload_n S.1 S.2.1 dX12_delay_23 rfl (lv_at hl 1 rfl) ?_
      refine g_aftR0 (st1 := [.int (b2i (f_X12_isOut mW b))]) (g_V (As := [.int b]) (rest := []) S mi_X12_isOut qw1567 (c_X12_isOut l D A w α (k) mTaped mErr mPpl mBts mUs mRa mSt mKi mWd mVal mLet mFin mNp mNb mOuts mWant mFnd mTape mNum mNam mFst mBnm mW mUn mSl mKp mnNum mnNam mnBo mnBn b hB0 (by first | assumption | exact vin_d (by decide) | exact vp_in_nI (by omega) (by decide) | decide | omega)) hK hP hD hE hS (hB0 0 _ rfl) rfl rfl rfl hl.1 (Nat.le_of_ble_eq_true rfl) rfl rfl ⟨(Nat.le_of_ble_eq_true rfl), (Nat.le_of_ble_eq_true rfl)⟩ ⟨(Nat.le_of_ble_eq_true rfl), (Nat.le_of_ble_eq_true rfl)⟩ dX12_delay_24) hS rfl (fun locs hS => ?_)
      refine g_bifne (b := (f_X12_isOut mW b)) (tgt := 33) S dX12_delay_27 (by decide) (fun (c3 : (f_X12_isOut mW b) = true) => ?_) (fun (c3 : (f_X12_isOut mW b) = false) => ?_)
      · refine lv_aload_n S.1 S.2.1 dX12_delay_33 rfl (lv_at hl 0 rfl) ?_
        refine g_aft0 (st1 := []) (g_V (As := []) (rest := []) S mi_X12_keeps qw1575 (c_X12_keeps l D A w α (k) mTaped mErr mPpl mBts mUs mRa mSt mKi mWd mVal mLet mFin mNp mNb mOuts mWant mFnd mTape mNum mNam mFst mBnm mW mUn mSl mKp mnNum mnNam mnBo mnBn hB0 (by first | assumption | exact vin_d (by decide) | exact vp_in_nI (by omega) (by decide) | decide | omega)) hK hP hD hE hS (hB0 0 _ rfl) rfl rfl rfl hl.1 (Nat.le_of_ble_eq_true rfl) rfl rfl ⟨(Nat.le_of_ble_eq_true rfl), (Nat.le_of_ble_eq_true rfl)⟩ ⟨(Nat.le_of_ble_eq_true rfl), (Nat.le_of_ble_eq_true rfl)⟩ dX12_delay_34) hS rfl (fun w1 H locs hQ hP hD hS => ?_)
        have hF := hF.trans hQ.2
        have hB0 : Blk w1 k (cM D α k mTaped mErr mPpl mBts ((f_X12_keeps mUs mW mUn).2) mRa mSt mKi mWd mVal mLet mFin mNp mNb mOuts mWant mFnd mTape mNum mNam mFst mBnm mW ((f_X12_keeps mUs mW mUn).1) mSl mKp mnNum mnNam mnBo mnBn) := hQ.1
        refine lv_aload_n S.1 S.2.1 dX12_delay_37 rfl (lv_at hl 0 rfl) ?_
        refine lv_iload_n S.1 S.2.1 dX12_delay_38 rfl (lv_at hl 1 rfl) ?_
        refine lv_iconst (v := 1) S.1 S.2.1 dX12_delay_39 (by decide) ?_
        refine lv_aload_n S.1 S.2.1 dX12_delay_40 rfl (lv_at hl 0 rfl) ?_
        refine lv_iload_n S.1 S.2.1 dX12_delay_41 rfl (lv_at hl 1 rfl) ?_
        refine lv_iconst (v := 1) S.1 S.2.1 dX12_delay_42 (by decide) ?_
        refine g_aftR0 (st1 := [.int (f_X12_ofBoat mW b 1), .int 1, .int b, .ref (α (k))]) (g_V (As := [.int b, .int 1]) (rest := [.int 1, .int b, .ref (α (k))]) S mi_X12_ofBoat qw1571 (c_X12_ofBoat l D A w1 α (k) mTaped mErr mPpl mBts ((f_X12_keeps mUs mW mUn).2) mRa mSt mKi mWd mVal mLet mFin mNp mNb mOuts mWant mFnd mTape mNum mNam mFst mBnm mW ((f_X12_keeps mUs mW mUn).1) mSl mKp mnNum mnNam mnBo mnBn b 1 hB0 (by first | assumption | exact vin_d (by decide) | exact vp_in_nI (by omega) (by decide) | decide | omega) (by first | assumption | exact vin_d (by decide) | exact vp_in_nI (by omega) (by decide) | decide | omega)) hK hP hD hE hS (hB0 0 _ rfl) rfl rfl rfl hl.1 (Nat.le_of_ble_eq_true rfl) rfl rfl ⟨(Nat.le_of_ble_eq_true rfl), (Nat.le_of_ble_eq_true rfl)⟩ ⟨(Nat.le_of_ble_eq_true rfl), (Nat.le_of_ble_eq_true rfl)⟩ dX12_delay_43) hS rfl (fun locs hS => ?_)
        refine lv_iload_n S.1 S.2.1 dX12_delay_46 rfl (lv_at hl 2 rfl) ?_
        refine lv_iadd S.1 S.2.1 dX12_delay_47 ?_
        refine g_aft0 (st1 := []) (g_V (As := [.int b, .int 1, .int ((f_X12_ofBoat mW b 1) + d)]) (rest := []) S mi_X12_setsBoat qw1587 (c_X12_setsBoat l D A w1 α (k) mTaped mErr mPpl mBts ((f_X12_keeps mUs mW mUn).2) mRa mSt mKi mWd mVal mLet mFin mNp mNb mOuts mWant mFnd mTape mNum mNam mFst mBnm mW ((f_X12_keeps mUs mW mUn).1) mSl mKp mnNum mnNam mnBo mnBn b 1 ((f_X12_ofBoat mW b 1) + d) hB0 (by first | assumption | exact vin_d (by decide) | exact vp_in_nI (by omega) (by decide) | decide | omega) (by first | assumption | exact vin_d (by decide) | exact vp_in_nI (by omega) (by decide) | decide | omega)) hK hP hD hE hS (hB0 0 _ rfl) rfl rfl rfl hl.1 (Nat.le_of_ble_eq_true rfl) rfl rfl ⟨(Nat.le_of_ble_eq_true rfl), (Nat.le_of_ble_eq_true rfl)⟩ ⟨(Nat.le_of_ble_eq_true rfl), (Nat.le_of_ble_eq_true rfl)⟩ dX12_delay_48) hS rfl (fun w2 H locs hQ hP hD hS => ?_)
        have hF := hF.trans hQ.2
        have hB0 : Blk w2 k (cM D α k mTaped mErr mPpl mBts ((f_X12_keeps mUs mW mUn).2) mRa mSt mKi mWd mVal mLet mFin mNp mNb mOuts mWant mFnd mTape mNum mNam mFst mBnm (f_X12_setsBoat mW b 1 ((f_X12_ofBoat mW b 1) + d)) ((f_X12_keeps mUs mW mUn).1) mSl mKp mnNum mnNam mnBo mnBn) := hQ.1
        refine lv_aload_n S.1 S.2.1 dX12_delay_51 rfl (lv_at hl 0 rfl) ?_
        refine lv_iload_n S.1 S.2.1 dX12_delay_52 rfl (lv_at hl 1 rfl) ?_
        refine lv_iconst (v := 1) S.1 S.2.1 dX12_delay_53 (by decide) ?_
        refine g_aftR0 (st1 := [.int (f_X12_ofBoat (f_X12_setsBoat mW b 1 ((f_X12_ofBoat mW b 1) + d)) b 1)]) (g_V (As := [.int b, .int 1]) (rest := []) S mi_X12_ofBoat qw1571 (c_X12_ofBoat l D A w2 α (k) mTaped mErr mPpl mBts ((f_X12_keeps mUs mW mUn).2) mRa mSt mKi mWd mVal mLet mFin mNp mNb mOuts mWant mFnd mTape mNum mNam mFst mBnm (f_X12_setsBoat mW b 1 ((f_X12_ofBoat mW b 1) + d)) ((f_X12_keeps mUs mW mUn).1) mSl mKp mnNum mnNam mnBo mnBn b 1 hB0 (by first | assumption | exact vin_d (by decide) | exact vp_in_nI (by omega) (by decide) | decide | omega) (by first | assumption | exact vin_d (by decide) | exact vp_in_nI (by omega) (by decide) | decide | omega)) hK hP hD hE hS (hB0 0 _ rfl) rfl rfl rfl hl.1 (Nat.le_of_ble_eq_true rfl) rfl rfl ⟨(Nat.le_of_ble_eq_true rfl), (Nat.le_of_ble_eq_true rfl)⟩ ⟨(Nat.le_of_ble_eq_true rfl), (Nat.le_of_ble_eq_true rfl)⟩ dX12_delay_54) hS rfl (fun locs hS => ?_)
        have hf : (f_X12_delay mBts mUs mW mUn b d) = ((f_X12_ofBoat (f_X12_setsBoat mW b 1 ((f_X12_ofBoat mW b 1) + d)) b 1), (f_X12_keeps mUs mW mUn).1, (f_X12_keeps mUs mW mUn).2, (f_X12_setsBoat mW b 1 ((f_X12_ofBoat mW b 1) + d))) := (cd_t c1).trans ((cd_t c2).trans (cd_t c3))
        exact g_iret S hr hlk hP hD hS (by rw [hf] <;> rfl) (⟨by rw [hf]; exact hB0, hF⟩) dX12_delay_57
      · refine lv_bipush (v := (-4)) S.1 S.2.1 dX12_delay_30 (by decide) ?_
        have hf : (f_X12_delay mBts mUs mW mUn b d) = ((-4), mUn, mUs, mW) := (cd_t c1).trans ((cd_t c2).trans (cd_f c3))
        exact g_iret S hr hlk hP hD hS (by rw [hf] <;> rfl) (⟨by rw [hf]; exact hB0, hF⟩) dX12_delay_32
    · refine lv_iconst (v := (-1)) S.1 S.2.1 dX12_delay_20 (by decide) ?_
      have hf : (f_X12_delay mBts mUs mW mUn b d) = ((-1), mUn, mUs, mW) := (cd_t c1).trans (cd_f c2)
      exact g_iret S hr hlk hP hD hS (by rw [hf] <;> rfl) (⟨by rw [hf]; exact hB0, hF⟩) dX12_delay_21
def f_X12_join (mPpl : Int32) (mBts : Int32) (mUs : Int32) (mW : Nat → Int32) (mUn : Nat → Int32) (p : Int32) (b : Int32) : Int32 × (Nat → Int32) × Int32 × (Nat → Int32) := (bif (f_X12_isPerson mPpl p) then (if b = (-2) then (bif (f_X12_isAtSea mW p) then ((-3), mUn, mUs, mW) else (if (f_X12_of mW p 0) = b then ((-2), mUn, mUs, mW) else (if 0 ≤ (f_X12_of mW p 0) then (((f_X12_of mW p 0) + 1), (f_X12_keeps mUs mW mUn).1, (f_X12_keeps mUs mW mUn).2, (f_X12_sets mW p 0 b)) else (0, (f_X12_keeps mUs mW mUn).1, (f_X12_keeps mUs mW mUn).2, (f_X12_sets mW p 0 b))))) else (bif (f_X12_isBoat mBts b) then (bif (f_X12_isAtSea mW p) then ((-3), mUn, mUs, mW) else (if (f_X12_of mW p 0) = b then ((-2), mUn, mUs, mW) else (if 0 ≤ (f_X12_of mW p 0) then (((f_X12_of mW p 0) + 1), (f_X12_keeps mUs mW mUn).1, (f_X12_keeps mUs mW mUn).2, (f_X12_sets mW p 0 b)) else (0, (f_X12_keeps mUs mW mUn).1, (f_X12_keeps mUs mW mUn).2, (f_X12_sets mW p 0 b))))) else ((-1), mUn, mUs, mW))) else ((-1), mUn, mUs, mW))
set_option maxHeartbeats 4000000 in
set_option maxRecDepth 100000 in
theorem c_X12_join (l : Launch) (D : va_G) (A : Nat → Prop) (w : va_W) (α : Nat → Nat) (k : Nat) (mTaped : Int32) (mErr : Int32) (mPpl : Int32) (mBts : Int32) (mUs : Int32) (mRa : Int32) (mSt : Int32) (mKi : Int32) (mWd : Int64) (mVal : Int32) (mLet : Int32) (mFin : Int32) (mNp : Int32) (mNb : Int32) (mOuts : Int32) (mWant : Int32) (mFnd : Int32) (mTape : Nat → Int32) (mNum : Nat → Int32) (mNam : Nat → Int32) (mFst : Nat → Int32) (mBnm : Nat → Int32) (mW : Nat → Int32) (mUn : Nat → Int32) (mSl : Nat → Int32) (mKp : Nat → Int32) (mnNum : Nat → Int32) (mnNam : Nat → Int32) (mnBo : Nat → Int32) (mnBn : Nat → Int32) (p : Int32) (b : Int32) (hB0 : Blk w k (cM D α k mTaped mErr mPpl mBts mUs mRa mSt mKi mWd mVal mLet mFin mNp mNb mOuts mWant mFnd mTape mNum mNam mFst mBnm mW mUn mSl mKp mnNum mnNam mnBo mnBn)) (hy0 : vp_in mUs 9) (hy1 : vp_in mPpl 21) (hy2 : vp_in mBts 7) : Met l yX12_join (ws_ yX12_join cX12_join 4 (some .int)) ({ frames := 2, cells := 0, slots := 0, locals := 46 }) (gPre D A [.ref (α (k)), .int p, .int b] w) (gQ D A (some (.int (f_X12_join mPpl mBts mUs mW mUn p b).1)) (fun w1 => Blk w1 k (cM D α k mTaped mErr mPpl mBts ((f_X12_join mPpl mBts mUs mW mUn p b).2.2.1) mRa mSt mKi mWd mVal mLet mFin mNp mNb mOuts mWant mFnd mTape mNum mNam mFst mBnm ((f_X12_join mPpl mBts mUs mW mUn p b).2.2.2) ((f_X12_join mPpl mBts mUs mW mUn p b).2.1) mSl mKp mnNum mnNam mnBo mnBn) ∧ Same w w1 k 14)) 0 0 A := by
  refine g_met [(0, .ref (α (k))), (1, .int p), (2, .int b)] (plainFor_of_name (by decide)) (Nat.le_of_ble_eq_true rfl) rfl (fun pg en s mi ar below me co ls S hK hP hD hE hS hr hlk hnm hl => ?_)
  have hF : Same w w k 14 := Same.rf
  refine lv_aload_n S.1 S.2.1 dX12_join_0 rfl (lv_at hl 0 rfl) ?_
  refine lv_iload_n S.1 S.2.1 dX12_join_1 rfl (lv_at hl 1 rfl) ?_
  refine g_aftR0 (st1 := [.int (b2i (f_X12_isPerson mPpl p))]) (g_V (As := [.int p]) (rest := []) S mi_X12_isPerson qw1611 (c_X12_isPerson l D A w α (k) mTaped mErr mPpl mBts mUs mRa mSt mKi mWd mVal mLet mFin mNp mNb mOuts mWant mFnd mTape mNum mNam mFst mBnm mW mUn mSl mKp mnNum mnNam mnBo mnBn p hB0) hK hP hD hE hS (hB0 0 _ rfl) rfl rfl rfl hl.1 (Nat.le_of_ble_eq_true rfl) rfl rfl ⟨(Nat.le_of_ble_eq_true rfl), (Nat.le_of_ble_eq_true rfl)⟩ ⟨(Nat.le_of_ble_eq_true rfl), (Nat.le_of_ble_eq_true rfl)⟩ dX12_join_2) hS rfl (fun locs hS => ?_)
  refine g_bifeq (b := (f_X12_isPerson mPpl p)) (tgt := 22) S dX12_join_5 (by decide) (fun (c1 : (f_X12_isPerson mPpl p) = false) => ?_) (fun (c1 : (f_X12_isPerson mPpl p) = true) => ?_)
  · refine lv_iconst (v := (-1)) S.1 S.2.1 dX12_join_22 (by decide) ?_
    have hf : (f_X12_join mPpl mBts mUs mW mUn p b) = ((-1), mUn, mUs, mW) := cd_f c1
    exact g_iret S hr hlk hP hD hS (by rw [hf] <;> rfl) (⟨by rw [hf]; exact hB0, hF⟩) dX12_join_23
  · have hh1 := isPerson_in (by assumption) c1
    refine lv_iload_n S.1 S.2.1 dX12_join_8 rfl (lv_at hl 2 rfl) ?_
    refine lv_bipush (v := (-2)) S.1 S.2.1 dX12_join_9 (by decide) ?_
    refine lv_icmp_eq (tgt := 24) S.1 S.2.1 dX12_join_11 (by decide) (fun (c2 : b = (-2)) => ?_) (fun (c2 : ¬ b = (-2)) => ?_)
    · refine lv_aload_n S.1 S.2.1 dX12_join_24 rfl (lv_at hl 0 rfl) ?_
      refine lv_iload_n S.1 S.2.1 dX12_join_25 rfl (lv_at hl 1 rfl) ?_
      refine g_aftR0 (st1 := [.int (b2i (f_X12_isAtSea mW p))]) (g_V (As := [.int p]) (rest := []) S mi_X12_isAtSea qw1583 (c_X12_isAtSea l D A w α (k) mTaped mErr mPpl mBts mUs mRa mSt mKi mWd mVal mLet mFin mNp mNb mOuts mWant mFnd mTape mNum mNam mFst mBnm mW mUn mSl mKp mnNum mnNam mnBo mnBn p hB0 (by first | assumption | exact vin_d (by decide) | exact vp_in_nI (by omega) (by decide) | decide | omega)) hK hP hD hE hS (hB0 0 _ rfl) rfl rfl rfl hl.1 (Nat.le_of_ble_eq_true rfl) rfl rfl ⟨(Nat.le_of_ble_eq_true rfl), (Nat.le_of_ble_eq_true rfl)⟩ ⟨(Nat.le_of_ble_eq_true rfl), (Nat.le_of_ble_eq_true rfl)⟩ dX12_join_26) hS rfl (fun locs hS => ?_)
      refine g_bifeq (b := (f_X12_isAtSea mW p)) (tgt := 35) S dX12_join_29 (by decide) (fun (c3 : (f_X12_isAtSea mW p) = false) => ?_) (fun (c3 : (f_X12_isAtSea mW p) = true) => ?_)
      · refine lv_aload_n S.1 S.2.1 dX12_join_35 rfl (lv_at hl 0 rfl) ?_
        refine lv_iload_n S.1 S.2.1 dX12_join_36 rfl (lv_at hl 1 rfl) ?_
        refine lv_iconst (v := 0) S.1 S.2.1 dX12_join_37 (by decide) ?_
        refine g_aftR0 (st1 := [.int (f_X12_of mW p 0)]) (g_V (As := [.int p, .int 0]) (rest := []) S mi_X12_of qw1579 (c_X12_of l D A w α (k) mTaped mErr mPpl mBts mUs mRa mSt mKi mWd mVal mLet mFin mNp mNb mOuts mWant mFnd mTape mNum mNam mFst mBnm mW mUn mSl mKp mnNum mnNam mnBo mnBn p 0 hB0 (by first | assumption | exact vin_d (by decide) | exact vp_in_nI (by omega) (by decide) | decide | omega) (by first | assumption | exact vin_d (by decide) | exact vp_in_nI (by omega) (by decide) | decide | omega)) hK hP hD hE hS (hB0 0 _ rfl) rfl rfl rfl hl.1 (Nat.le_of_ble_eq_true rfl) rfl rfl ⟨(Nat.le_of_ble_eq_true rfl), (Nat.le_of_ble_eq_true rfl)⟩ ⟨(Nat.le_of_ble_eq_true rfl), (Nat.le_of_ble_eq_true rfl)⟩ dX12_join_38) hS rfl (fun locs hS => ?_)
        refine lv_istore_n (lv' := [(3, .int (f_X12_of mW p 0)), (0, .ref (α (k))), (1, .int p), (2, .int b)]) S.1 S.2.1 dX12_join_41 rfl hl (by decide) rfl (fun ls hl => ?_)
        refine lv_iload_n S.1 S.2.1 dX12_join_42 rfl (lv_at hl 0 rfl) ?_
        refine lv_iload_n S.1 S.2.1 dX12_join_43 rfl (lv_at hl 3 rfl) ?_
        refine lv_icmp_ne (tgt := 50) S.1 S.2.1 dX12_join_44 (by decide) (fun (c4 : ¬ (f_X12_of mW p 0) = b) => ?_) (fun (c4 : (f_X12_of mW p 0) = b) => ?_)
        · refine lv_aload_n S.1 S.2.1 dX12_join_50 rfl (lv_at hl 1 rfl) ?_
          refine g_aft0 (st1 := []) (g_V (As := []) (rest := []) S mi_X12_keeps qw1575 (c_X12_keeps l D A w α (k) mTaped mErr mPpl mBts mUs mRa mSt mKi mWd mVal mLet mFin mNp mNb mOuts mWant mFnd mTape mNum mNam mFst mBnm mW mUn mSl mKp mnNum mnNam mnBo mnBn hB0 (by first | assumption | exact vin_d (by decide) | exact vp_in_nI (by omega) (by decide) | decide | omega)) hK hP hD hE hS (hB0 0 _ rfl) rfl rfl rfl hl.1 (Nat.le_of_ble_eq_true rfl) rfl rfl ⟨(Nat.le_of_ble_eq_true rfl), (Nat.le_of_ble_eq_true rfl)⟩ ⟨(Nat.le_of_ble_eq_true rfl), (Nat.le_of_ble_eq_true rfl)⟩ dX12_join_51) hS rfl (fun w1 H locs hQ hP hD hS => ?_)
          have hF := hF.trans hQ.2
          have hB0 : Blk w1 k (cM D α k mTaped mErr mPpl mBts ((f_X12_keeps mUs mW mUn).2) mRa mSt mKi mWd mVal mLet mFin mNp mNb mOuts mWant mFnd mTape mNum mNam mFst mBnm mW ((f_X12_keeps mUs mW mUn).1) mSl mKp mnNum mnNam mnBo mnBn) := hQ.1
          refine lv_aload_n S.1 S.2.1 dX12_join_54 rfl (lv_at hl 1 rfl) ?_
          refine lv_iload_n S.1 S.2.1 dX12_join_55 rfl (lv_at hl 2 rfl) ?_
          refine lv_iconst (v := 0) S.1 S.2.1 dX12_join_56 (by decide) ?_
          refine lv_iload_n S.1 S.2.1 dX12_join_57 rfl (lv_at hl 3 rfl) ?_
          refine g_aft0 (st1 := []) (g_V (As := [.int p, .int 0, .int b]) (rest := []) S mi_X12_sets qw1362 (c_X12_sets l D A w1 α (k) mTaped mErr mPpl mBts ((f_X12_keeps mUs mW mUn).2) mRa mSt mKi mWd mVal mLet mFin mNp mNb mOuts mWant mFnd mTape mNum mNam mFst mBnm mW ((f_X12_keeps mUs mW mUn).1) mSl mKp mnNum mnNam mnBo mnBn p 0 b hB0 (by first | assumption | exact vin_d (by decide) | exact vp_in_nI (by omega) (by decide) | decide | omega) (by first | assumption | exact vin_d (by decide) | exact vp_in_nI (by omega) (by decide) | decide | omega)) hK hP hD hE hS (hB0 0 _ rfl) rfl rfl rfl hl.1 (Nat.le_of_ble_eq_true rfl) rfl rfl ⟨(Nat.le_of_ble_eq_true rfl), (Nat.le_of_ble_eq_true rfl)⟩ ⟨(Nat.le_of_ble_eq_true rfl), (Nat.le_of_ble_eq_true rfl)⟩ dX12_join_58) hS rfl (fun w2 H locs hQ hP hD hS => ?_)
          have hF := hF.trans hQ.2
          have hB0 : Blk w2 k (cM D α k mTaped mErr mPpl mBts ((f_X12_keeps mUs mW mUn).2) mRa mSt mKi mWd mVal mLet mFin mNp mNb mOuts mWant mFnd mTape mNum mNam mFst mBnm (f_X12_sets mW p 0 b) ((f_X12_keeps mUs mW mUn).1) mSl mKp mnNum mnNam mnBo mnBn) := hQ.1
          refine lv_iload_n S.1 S.2.1 dX12_join_61 rfl (lv_at hl 0 rfl) ?_
          refine lv_if_ge (tgt := 69) S.1 S.2.1 dX12_join_62 (by decide) (fun (c5 : 0 ≤ (f_X12_of mW p 0)) => ?_) (fun (c5 : ¬ 0 ≤ (f_X12_of mW p 0)) => ?_)
          · refine lv_iload_n S.1 S.2.1 dX12_join_69 rfl (lv_at hl 0 rfl) ?_
            refine lv_iconst (v := 1) S.1 S.2.1 dX12_join_70 (by decide) ?_
            refine lv_iadd S.1 S.2.1 dX12_join_71 ?_
            have hf : (f_X12_join mPpl mBts mUs mW mUn p b) = (((f_X12_of mW p 0) + 1), (f_X12_keeps mUs mW mUn).1, (f_X12_keeps mUs mW mUn).2, (f_X12_sets mW p 0 b)) := (cd_t c1).trans ((if_pos c2).trans ((cd_f c3).trans ((if_neg c4).trans (if_pos c5))))
            exact g_iret S hr hlk hP hD hS (by rw [hf] <;> rfl) (⟨by rw [hf]; exact hB0, hF⟩) dX12_join_72
          · refine lv_iconst (v := 0) S.1 S.2.1 dX12_join_65 (by decide) ?_
            refine lv_goto (tgt := 72) S.1 S.2.1 dX12_join_66 (by decide) ?_
            have hf : (f_X12_join mPpl mBts mUs mW mUn p b) = (0, (f_X12_keeps mUs mW mUn).1, (f_X12_keeps mUs mW mUn).2, (f_X12_sets mW p 0 b)) := (cd_t c1).trans ((if_pos c2).trans ((cd_f c3).trans ((if_neg c4).trans (if_neg c5))))
            exact g_iret S hr hlk hP hD hS (by rw [hf] <;> rfl) (⟨by rw [hf]; exact hB0, hF⟩) dX12_join_72
        · refine lv_bipush (v := (-2)) S.1 S.2.1 dX12_join_47 (by decide) ?_
          have hf : (f_X12_join mPpl mBts mUs mW mUn p b) = ((-2), mUn, mUs, mW) := (cd_t c1).trans ((if_pos c2).trans ((cd_f c3).trans (if_pos c4)))
          exact g_iret S hr hlk hP hD hS (by rw [hf] <;> rfl) (⟨by rw [hf]; exact hB0, hF⟩) dX12_join_49
      · refine lv_bipush (v := (-3)) S.1 S.2.1 dX12_join_32 (by decide) ?_
        have hf : (f_X12_join mPpl mBts mUs mW mUn p b) = ((-3), mUn, mUs, mW) := (cd_t c1).trans ((if_pos c2).trans (cd_t c3))
        exact g_iret S hr hlk hP hD hS (by rw [hf] <;> rfl) (⟨by rw [hf]; exact hB0, hF⟩) dX12_join_34
    · refine lv_aload_n S.1 S.2.1 dX12_join_14 rfl (lv_at hl 0 rfl) ?_
      refine lv_iload_n S.1 S.2.1 dX12_join_15 rfl (lv_at hl 2 rfl) ?_
      refine g_aftR0 (st1 := [.int (b2i (f_X12_isBoat mBts b))]) (g_V (As := [.int b]) (rest := []) S mi_X12_isBoat qw1562 (c_X12_isBoat l D A w α (k) mTaped mErr mPpl mBts mUs mRa mSt mKi mWd mVal mLet mFin mNp mNb mOuts mWant mFnd mTape mNum mNam mFst mBnm mW mUn mSl mKp mnNum mnNam mnBo mnBn b hB0) hK hP hD hE hS (hB0 0 _ rfl) rfl rfl rfl hl.1 (Nat.le_of_ble_eq_true rfl) rfl rfl ⟨(Nat.le_of_ble_eq_true rfl), (Nat.le_of_ble_eq_true rfl)⟩ ⟨(Nat.le_of_ble_eq_true rfl), (Nat.le_of_ble_eq_true rfl)⟩ dX12_join_16) hS rfl (fun locs hS => ?_)
      refine g_bifne (b := (f_X12_isBoat mBts b)) (tgt := 24) S dX12_join_19 (by decide) (fun (c6 : (f_X12_isBoat mBts b) = true) => ?_) (fun (c6 : (f_X12_isBoat mBts b) = false) => ?_)
      · have hh6 := isBoat_in (by assumption) c6
        refine lv_aload_n S.1 S.2.1 dX12_join_24 rfl (lv_at hl 0 rfl) ?_
        refine lv_iload_n S.1 S.2.1 dX12_join_25 rfl (lv_at hl 1 rfl) ?_
        refine g_aftR0 (st1 := [.int (b2i (f_X12_isAtSea mW p))]) (g_V (As := [.int p]) (rest := []) S mi_X12_isAtSea qw1583 (c_X12_isAtSea l D A w α (k) mTaped mErr mPpl mBts mUs mRa mSt mKi mWd mVal mLet mFin mNp mNb mOuts mWant mFnd mTape mNum mNam mFst mBnm mW mUn mSl mKp mnNum mnNam mnBo mnBn p hB0 (by first | assumption | exact vin_d (by decide) | exact vp_in_nI (by omega) (by decide) | decide | omega)) hK hP hD hE hS (hB0 0 _ rfl) rfl rfl rfl hl.1 (Nat.le_of_ble_eq_true rfl) rfl rfl ⟨(Nat.le_of_ble_eq_true rfl), (Nat.le_of_ble_eq_true rfl)⟩ ⟨(Nat.le_of_ble_eq_true rfl), (Nat.le_of_ble_eq_true rfl)⟩ dX12_join_26) hS rfl (fun locs hS => ?_)
        refine g_bifeq (b := (f_X12_isAtSea mW p)) (tgt := 35) S dX12_join_29 (by decide) (fun (c7 : (f_X12_isAtSea mW p) = false) => ?_) (fun (c7 : (f_X12_isAtSea mW p) = true) => ?_)
        · refine lv_aload_n S.1 S.2.1 dX12_join_35 rfl (lv_at hl 0 rfl) ?_
          refine lv_iload_n S.1 S.2.1 dX12_join_36 rfl (lv_at hl 1 rfl) ?_
          refine lv_iconst (v := 0) S.1 S.2.1 dX12_join_37 (by decide) ?_
          refine g_aftR0 (st1 := [.int (f_X12_of mW p 0)]) (g_V (As := [.int p, .int 0]) (rest := []) S mi_X12_of qw1579 (c_X12_of l D A w α (k) mTaped mErr mPpl mBts mUs mRa mSt mKi mWd mVal mLet mFin mNp mNb mOuts mWant mFnd mTape mNum mNam mFst mBnm mW mUn mSl mKp mnNum mnNam mnBo mnBn p 0 hB0 (by first | assumption | exact vin_d (by decide) | exact vp_in_nI (by omega) (by decide) | decide | omega) (by first | assumption | exact vin_d (by decide) | exact vp_in_nI (by omega) (by decide) | decide | omega)) hK hP hD hE hS (hB0 0 _ rfl) rfl rfl rfl hl.1 (Nat.le_of_ble_eq_true rfl) rfl rfl ⟨(Nat.le_of_ble_eq_true rfl), (Nat.le_of_ble_eq_true rfl)⟩ ⟨(Nat.le_of_ble_eq_true rfl), (Nat.le_of_ble_eq_true rfl)⟩ dX12_join_38) hS rfl (fun locs hS => ?_)
          refine lv_istore_n (lv' := [(3, .int (f_X12_of mW p 0)), (0, .ref (α (k))), (1, .int p), (2, .int b)]) S.1 S.2.1 dX12_join_41 rfl hl (by decide) rfl (fun ls hl => ?_)
          refine lv_iload_n S.1 S.2.1 dX12_join_42 rfl (lv_at hl 0 rfl) ?_
          refine lv_iload_n S.1 S.2.1 dX12_join_43 rfl (lv_at hl 3 rfl) ?_
          refine lv_icmp_ne (tgt := 50) S.1 S.2.1 dX12_join_44 (by decide) (fun (c8 : ¬ (f_X12_of mW p 0) = b) => ?_) (fun (c8 : (f_X12_of mW p 0) = b) => ?_)
          · refine lv_aload_n S.1 S.2.1 dX12_join_50 rfl (lv_at hl 1 rfl) ?_
            refine g_aft0 (st1 := []) (g_V (As := []) (rest := []) S mi_X12_keeps qw1575 (c_X12_keeps l D A w α (k) mTaped mErr mPpl mBts mUs mRa mSt mKi mWd mVal mLet mFin mNp mNb mOuts mWant mFnd mTape mNum mNam mFst mBnm mW mUn mSl mKp mnNum mnNam mnBo mnBn hB0 (by first | assumption | exact vin_d (by decide) | exact vp_in_nI (by omega) (by decide) | decide | omega)) hK hP hD hE hS (hB0 0 _ rfl) rfl rfl rfl hl.1 (Nat.le_of_ble_eq_true rfl) rfl rfl ⟨(Nat.le_of_ble_eq_true rfl), (Nat.le_of_ble_eq_true rfl)⟩ ⟨(Nat.le_of_ble_eq_true rfl), (Nat.le_of_ble_eq_true rfl)⟩ dX12_join_51) hS rfl (fun w3 H locs hQ hP hD hS => ?_)
            have hF := hF.trans hQ.2
            have hB0 : Blk w3 k (cM D α k mTaped mErr mPpl mBts ((f_X12_keeps mUs mW mUn).2) mRa mSt mKi mWd mVal mLet mFin mNp mNb mOuts mWant mFnd mTape mNum mNam mFst mBnm mW ((f_X12_keeps mUs mW mUn).1) mSl mKp mnNum mnNam mnBo mnBn) := hQ.1
            refine lv_aload_n S.1 S.2.1 dX12_join_54 rfl (lv_at hl 1 rfl) ?_
            refine lv_iload_n S.1 S.2.1 dX12_join_55 rfl (lv_at hl 2 rfl) ?_
            refine lv_iconst (v := 0) S.1 S.2.1 dX12_join_56 (by decide) ?_
            refine lv_iload_n S.1 S.2.1 dX12_join_57 rfl (lv_at hl 3 rfl) ?_
            refine g_aft0 (st1 := []) (g_V (As := [.int p, .int 0, .int b]) (rest := []) S mi_X12_sets qw1362 (c_X12_sets l D A w3 α (k) mTaped mErr mPpl mBts ((f_X12_keeps mUs mW mUn).2) mRa mSt mKi mWd mVal mLet mFin mNp mNb mOuts mWant mFnd mTape mNum mNam mFst mBnm mW ((f_X12_keeps mUs mW mUn).1) mSl mKp mnNum mnNam mnBo mnBn p 0 b hB0 (by first | assumption | exact vin_d (by decide) | exact vp_in_nI (by omega) (by decide) | decide | omega) (by first | assumption | exact vin_d (by decide) | exact vp_in_nI (by omega) (by decide) | decide | omega)) hK hP hD hE hS (hB0 0 _ rfl) rfl rfl rfl hl.1 (Nat.le_of_ble_eq_true rfl) rfl rfl ⟨(Nat.le_of_ble_eq_true rfl), (Nat.le_of_ble_eq_true rfl)⟩ ⟨(Nat.le_of_ble_eq_true rfl), (Nat.le_of_ble_eq_true rfl)⟩ dX12_join_58) hS rfl (fun w4 H locs hQ hP hD hS => ?_)
            have hF := hF.trans hQ.2
            have hB0 : Blk w4 k (cM D α k mTaped mErr mPpl mBts ((f_X12_keeps mUs mW mUn).2) mRa mSt mKi mWd mVal mLet mFin mNp mNb mOuts mWant mFnd mTape mNum mNam mFst mBnm (f_X12_sets mW p 0 b) ((f_X12_keeps mUs mW mUn).1) mSl mKp mnNum mnNam mnBo mnBn) := hQ.1
            refine lv_iload_n S.1 S.2.1 dX12_join_61 rfl (lv_at hl 0 rfl) ?_
            refine lv_if_ge (tgt := 69) S.1 S.2.1 dX12_join_62 (by decide) (fun (c9 : 0 ≤ (f_X12_of mW p 0)) => ?_) (fun (c9 : ¬ 0 ≤ (f_X12_of mW p 0)) => ?_)
            · refine lv_iload_n S.1 S.2.1 dX12_join_69 rfl (lv_at hl 0 rfl) ?_
              refine lv_iconst (v := 1) S.1 S.2.1 dX12_join_70 (by decide) ?_
              refine lv_iadd S.1 S.2.1 dX12_join_71 ?_
              have hf : (f_X12_join mPpl mBts mUs mW mUn p b) = (((f_X12_of mW p 0) + 1), (f_X12_keeps mUs mW mUn).1, (f_X12_keeps mUs mW mUn).2, (f_X12_sets mW p 0 b)) := (cd_t c1).trans ((if_neg c2).trans ((cd_t c6).trans ((cd_f c7).trans ((if_neg c8).trans (if_pos c9)))))
              exact g_iret S hr hlk hP hD hS (by rw [hf] <;> rfl) (⟨by rw [hf]; exact hB0, hF⟩) dX12_join_72
            · refine lv_iconst (v := 0) S.1 S.2.1 dX12_join_65 (by decide) ?_
              refine lv_goto (tgt := 72) S.1 S.2.1 dX12_join_66 (by decide) ?_
              have hf : (f_X12_join mPpl mBts mUs mW mUn p b) = (0, (f_X12_keeps mUs mW mUn).1, (f_X12_keeps mUs mW mUn).2, (f_X12_sets mW p 0 b)) := (cd_t c1).trans ((if_neg c2).trans ((cd_t c6).trans ((cd_f c7).trans ((if_neg c8).trans (if_neg c9)))))
              exact g_iret S hr hlk hP hD hS (by rw [hf] <;> rfl) (⟨by rw [hf]; exact hB0, hF⟩) dX12_join_72
          · refine lv_bipush (v := (-2)) S.1 S.2.1 dX12_join_47 (by decide) ?_
            have hf : (f_X12_join mPpl mBts mUs mW mUn p b) = ((-2), mUn, mUs, mW) := (cd_t c1).trans ((if_neg c2).trans ((cd_t c6).trans ((cd_f c7).trans (if_pos c8))))
            exact g_iret S hr hlk hP hD hS (by rw [hf] <;> rfl) (⟨by rw [hf]; exact hB0, hF⟩) dX12_join_49
        · refine lv_bipush (v := (-3)) S.1 S.2.1 dX12_join_32 (by decide) ?_
          have hf : (f_X12_join mPpl mBts mUs mW mUn p b) = ((-3), mUn, mUs, mW) := (cd_t c1).trans ((if_neg c2).trans ((cd_t c6).trans (cd_t c7)))
          exact g_iret S hr hlk hP hD hS (by rw [hf] <;> rfl) (⟨by rw [hf]; exact hB0, hF⟩) dX12_join_34
      · refine lv_iconst (v := (-1)) S.1 S.2.1 dX12_join_22 (by decide) ?_
        have hf : (f_X12_join mPpl mBts mUs mW mUn p b) = ((-1), mUn, mUs, mW) := (cd_t c1).trans ((if_neg c2).trans (cd_f c6))
        exact g_iret S hr hlk hP hD hS (by rw [hf] <;> rfl) (⟨by rw [hf]; exact hB0, hF⟩) dX12_join_23
def f_X12_give (mPpl : Int32) (mUs : Int32) (mW : Nat → Int32) (mUn : Nat → Int32) (o : Int32) (c : Int32) (b : Int32) : Int32 × (Nat → Int32) × Int32 × (Nat → Int32) := (bif (f_X12_isPerson mPpl o) then (bif (f_X12_isPerson mPpl c) then (if o = c then ((-1), mUn, mUs, mW) else (if b = (-2) then (bif (f_X12_isAtSea mW o) then ((-3), mUn, mUs, mW) else (bif (f_X12_isAtSea mW c) then ((-3), mUn, mUs, mW) else (if (f_X12_of mW o 5) = 0 then ((f_X12_ones (f_X12_carriedBy mPpl (f_X12_sets (f_X12_sets (f_X12_sets mW o 5 1) o 6 c) o 7 b) c)), (f_X12_keeps mUs mW mUn).1, (f_X12_keeps mUs mW mUn).2, (f_X12_sets (f_X12_sets (f_X12_sets mW o 5 1) o 6 c) o 7 b)) else ((-4), mUn, mUs, mW)))) else (bif (f_X12_isBasket b) then (bif (f_X12_isAtSea mW o) then ((-3), mUn, mUs, mW) else (bif (f_X12_isAtSea mW c) then ((-3), mUn, mUs, mW) else (if (f_X12_of mW o 5) = 0 then ((f_X12_ones (f_X12_carriedBy mPpl (f_X12_sets (f_X12_sets (f_X12_sets mW o 5 1) o 6 c) o 7 b) c)), (f_X12_keeps mUs mW mUn).1, (f_X12_keeps mUs mW mUn).2, (f_X12_sets (f_X12_sets (f_X12_sets mW o 5 1) o 6 c) o 7 b)) else ((-4), mUn, mUs, mW)))) else ((-1), mUn, mUs, mW)))) else ((-1), mUn, mUs, mW)) else ((-1), mUn, mUs, mW))
set_option maxHeartbeats 4000000 in
set_option maxRecDepth 100000 in
theorem c_X12_give (l : Launch) (D : va_G) (A : Nat → Prop) (w : va_W) (α : Nat → Nat) (k : Nat) (mTaped : Int32) (mErr : Int32) (mPpl : Int32) (mBts : Int32) (mUs : Int32) (mRa : Int32) (mSt : Int32) (mKi : Int32) (mWd : Int64) (mVal : Int32) (mLet : Int32) (mFin : Int32) (mNp : Int32) (mNb : Int32) (mOuts : Int32) (mWant : Int32) (mFnd : Int32) (mTape : Nat → Int32) (mNum : Nat → Int32) (mNam : Nat → Int32) (mFst : Nat → Int32) (mBnm : Nat → Int32) (mW : Nat → Int32) (mUn : Nat → Int32) (mSl : Nat → Int32) (mKp : Nat → Int32) (mnNum : Nat → Int32) (mnNam : Nat → Int32) (mnBo : Nat → Int32) (mnBn : Nat → Int32) (o : Int32) (c : Int32) (b : Int32) (hB0 : Blk w k (cM D α k mTaped mErr mPpl mBts mUs mRa mSt mKi mWd mVal mLet mFin mNp mNb mOuts mWant mFnd mTape mNum mNam mFst mBnm mW mUn mSl mKp mnNum mnNam mnBo mnBn)) (hy0 : vp_in mUs 9) (hy1 : vp_in mPpl 21) (hy2 : vp_in mBts 7) : Met l yX12_give (ws_ yX12_give cX12_give 4 (some .int)) ({ frames := 2, cells := 0, slots := 0, locals := 46 }) (gPre D A [.ref (α (k)), .int o, .int c, .int b] w) (gQ D A (some (.int (f_X12_give mPpl mUs mW mUn o c b).1)) (fun w1 => Blk w1 k (cM D α k mTaped mErr mPpl mBts ((f_X12_give mPpl mUs mW mUn o c b).2.2.1) mRa mSt mKi mWd mVal mLet mFin mNp mNb mOuts mWant mFnd mTape mNum mNam mFst mBnm ((f_X12_give mPpl mUs mW mUn o c b).2.2.2) ((f_X12_give mPpl mUs mW mUn o c b).2.1) mSl mKp mnNum mnNam mnBo mnBn) ∧ Same w w1 k 14)) 0 0 A := by
  refine g_met [(0, .ref (α (k))), (1, .int o), (2, .int c), (3, .int b)] (plainFor_of_name (by decide)) (Nat.le_of_ble_eq_true rfl) rfl (fun pg en s mi ar below me co ls S hK hP hD hE hS hr hlk hnm hl => ?_)
  have hF : Same w w k 14 := Same.rf
  refine lv_aload_n S.1 S.2.1 dX12_give_0 rfl (lv_at hl 0 rfl) ?_
  refine lv_iload_n S.1 S.2.1 dX12_give_1 rfl (lv_at hl 1 rfl) ?_
  refine g_aftR0 (st1 := [.int (b2i (f_X12_isPerson mPpl o))]) (g_V (As := [.int o]) (rest := []) S mi_X12_isPerson qw1611 (c_X12_isPerson l D A w α (k) mTaped mErr mPpl mBts mUs mRa mSt mKi mWd mVal mLet mFin mNp mNb mOuts mWant mFnd mTape mNum mNam mFst mBnm mW mUn mSl mKp mnNum mnNam mnBo mnBn o hB0) hK hP hD hE hS (hB0 0 _ rfl) rfl rfl rfl hl.1 (Nat.le_of_ble_eq_true rfl) rfl rfl ⟨(Nat.le_of_ble_eq_true rfl), (Nat.le_of_ble_eq_true rfl)⟩ ⟨(Nat.le_of_ble_eq_true rfl), (Nat.le_of_ble_eq_true rfl)⟩ dX12_give_2) hS rfl (fun locs hS => ?_)
  refine g_bifeq (b := (f_X12_isPerson mPpl o)) (tgt := 34) S dX12_give_5 (by decide) (fun (c1 : (f_X12_isPerson mPpl o) = false) => ?_) (fun (c1 : (f_X12_isPerson mPpl o) = true) => ?_)
  · refine lv_iconst (v := (-1)) S.1 S.2.1 dX12_give_34 (by decide) ?_
    have hf : (f_X12_give mPpl mUs mW mUn o c b) = ((-1), mUn, mUs, mW) := cd_f c1
    exact g_iret S hr hlk hP hD hS (by rw [hf] <;> rfl) (⟨by rw [hf]; exact hB0, hF⟩) dX12_give_35
  · have hh1 := isPerson_in (by assumption) c1
    refine lv_aload_n S.1 S.2.1 dX12_give_8 rfl (lv_at hl 0 rfl) ?_
    refine lv_iload_n S.1 S.2.1 dX12_give_9 rfl (lv_at hl 2 rfl) ?_
    refine g_aftR0 (st1 := [.int (b2i (f_X12_isPerson mPpl c))]) (g_V (As := [.int c]) (rest := []) S mi_X12_isPerson qw1611 (c_X12_isPerson l D A w α (k) mTaped mErr mPpl mBts mUs mRa mSt mKi mWd mVal mLet mFin mNp mNb mOuts mWant mFnd mTape mNum mNam mFst mBnm mW mUn mSl mKp mnNum mnNam mnBo mnBn c hB0) hK hP hD hE hS (hB0 0 _ rfl) rfl rfl rfl hl.1 (Nat.le_of_ble_eq_true rfl) rfl rfl ⟨(Nat.le_of_ble_eq_true rfl), (Nat.le_of_ble_eq_true rfl)⟩ ⟨(Nat.le_of_ble_eq_true rfl), (Nat.le_of_ble_eq_true rfl)⟩ dX12_give_10) hS rfl (fun locs hS => ?_)
    refine g_bifeq (b := (f_X12_isPerson mPpl c)) (tgt := 34) S dX12_give_13 (by decide) (fun (c2 : (f_X12_isPerson mPpl c) = false) => ?_) (fun (c2 : (f_X12_isPerson mPpl c) = true) => ?_)
    · refine lv_iconst (v := (-1)) S.1 S.2.1 dX12_give_34 (by decide) ?_
      have hf : (f_X12_give mPpl mUs mW mUn o c b) = ((-1), mUn, mUs, mW) := (cd_t c1).trans (cd_f c2)
      exact g_iret S hr hlk hP hD hS (by rw [hf] <;> rfl) (⟨by rw [hf]; exact hB0, hF⟩) dX12_give_35
    · have hh2 := isPerson_in (by assumption) c2
      refine lv_iload_n S.1 S.2.1 dX12_give_16 rfl (lv_at hl 1 rfl) ?_
      refine lv_iload_n S.1 S.2.1 dX12_give_17 rfl (lv_at hl 2 rfl) ?_
      refine lv_icmp_eq (tgt := 34) S.1 S.2.1 dX12_give_18 (by decide) (fun (c3 : o = c) => ?_) (fun (c3 : ¬ o = c) => ?_)
      · refine lv_iconst (v := (-1)) S.1 S.2.1 dX12_give_34 (by decide) ?_
        have hf : (f_X12_give mPpl mUs mW mUn o c b) = ((-1), mUn, mUs, mW) := (cd_t c1).trans ((cd_t c2).trans (if_pos c3))
        exact g_iret S hr hlk hP hD hS (by rw [hf] <;> rfl) (⟨by rw [hf]; exact hB0, hF⟩) dX12_give_35
      · refine lv_iload_n S.1 S.2.1 dX12_give_21 rfl (lv_at hl 3 rfl) ?_
        refine lv_bipush (v := (-2)) S.1 S.2.1 dX12_give_22 (by decide) ?_
        refine lv_icmp_eq (tgt := 36) S.1 S.2.1 dX12_give_24 (by decide) (fun (c4 : b = (-2)) => ?_) (fun (c4 : ¬ b = (-2)) => ?_)
        · refine lv_aload_n S.1 S.2.1 dX12_give_36 rfl (lv_at hl 0 rfl) ?_
          refine lv_iload_n S.1 S.2.1 dX12_give_37 rfl (lv_at hl 1 rfl) ?_
          refine g_aftR0 (st1 := [.int (b2i (f_X12_isAtSea mW o))]) (g_V (As := [.int o]) (rest := []) S mi_X12_isAtSea qw1583 (c_X12_isAtSea l D A w α (k) mTaped mErr mPpl mBts mUs mRa mSt mKi mWd mVal mLet mFin mNp mNb mOuts mWant mFnd mTape mNum mNam mFst mBnm mW mUn mSl mKp mnNum mnNam mnBo mnBn o hB0 (by first | assumption | exact vin_d (by decide) | exact vp_in_nI (by omega) (by decide) | decide | omega)) hK hP hD hE hS (hB0 0 _ rfl) rfl rfl rfl hl.1 (Nat.le_of_ble_eq_true rfl) rfl rfl ⟨(Nat.le_of_ble_eq_true rfl), (Nat.le_of_ble_eq_true rfl)⟩ ⟨(Nat.le_of_ble_eq_true rfl), (Nat.le_of_ble_eq_true rfl)⟩ dX12_give_38) hS rfl (fun locs hS => ?_)
          refine g_bifne (b := (f_X12_isAtSea mW o)) (tgt := 52) S dX12_give_41 (by decide) (fun (c5 : (f_X12_isAtSea mW o) = true) => ?_) (fun (c5 : (f_X12_isAtSea mW o) = false) => ?_)
          · refine lv_bipush (v := (-3)) S.1 S.2.1 dX12_give_52 (by decide) ?_
            have hf : (f_X12_give mPpl mUs mW mUn o c b) = ((-3), mUn, mUs, mW) := (cd_t c1).trans ((cd_t c2).trans ((if_neg c3).trans ((if_pos c4).trans (cd_t c5))))
            exact g_iret S hr hlk hP hD hS (by rw [hf] <;> rfl) (⟨by rw [hf]; exact hB0, hF⟩) dX12_give_54
          · refine lv_aload_n S.1 S.2.1 dX12_give_44 rfl (lv_at hl 0 rfl) ?_
            refine lv_iload_n S.1 S.2.1 dX12_give_45 rfl (lv_at hl 2 rfl) ?_
            refine g_aftR0 (st1 := [.int (b2i (f_X12_isAtSea mW c))]) (g_V (As := [.int c]) (rest := []) S mi_X12_isAtSea qw1583 (c_X12_isAtSea l D A w α (k) mTaped mErr mPpl mBts mUs mRa mSt mKi mWd mVal mLet mFin mNp mNb mOuts mWant mFnd mTape mNum mNam mFst mBnm mW mUn mSl mKp mnNum mnNam mnBo mnBn c hB0 (by first | assumption | exact vin_d (by decide) | exact vp_in_nI (by omega) (by decide) | decide | omega)) hK hP hD hE hS (hB0 0 _ rfl) rfl rfl rfl hl.1 (Nat.le_of_ble_eq_true rfl) rfl rfl ⟨(Nat.le_of_ble_eq_true rfl), (Nat.le_of_ble_eq_true rfl)⟩ ⟨(Nat.le_of_ble_eq_true rfl), (Nat.le_of_ble_eq_true rfl)⟩ dX12_give_46) hS rfl (fun locs hS => ?_)
            refine g_bifeq (b := (f_X12_isAtSea mW c)) (tgt := 55) S dX12_give_49 (by decide) (fun (c6 : (f_X12_isAtSea mW c) = false) => ?_) (fun (c6 : (f_X12_isAtSea mW c) = true) => ?_)
            · refine lv_aload_n S.1 S.2.1 dX12_give_55 rfl (lv_at hl 0 rfl) ?_
              refine lv_iload_n S.1 S.2.1 dX12_give_56 rfl (lv_at hl 1 rfl) ?_
              refine lv_iconst (v := 5) S.1 S.2.1 dX12_give_57 (by decide) ?_
              refine g_aftR0 (st1 := [.int (f_X12_of mW o 5)]) (g_V (As := [.int o, .int 5]) (rest := []) S mi_X12_of qw1579 (c_X12_of l D A w α (k) mTaped mErr mPpl mBts mUs mRa mSt mKi mWd mVal mLet mFin mNp mNb mOuts mWant mFnd mTape mNum mNam mFst mBnm mW mUn mSl mKp mnNum mnNam mnBo mnBn o 5 hB0 (by first | assumption | exact vin_d (by decide) | exact vp_in_nI (by omega) (by decide) | decide | omega) (by first | assumption | exact vin_d (by decide) | exact vp_in_nI (by omega) (by decide) | decide | omega)) hK hP hD hE hS (hB0 0 _ rfl) rfl rfl rfl hl.1 (Nat.le_of_ble_eq_true rfl) rfl rfl ⟨(Nat.le_of_ble_eq_true rfl), (Nat.le_of_ble_eq_true rfl)⟩ ⟨(Nat.le_of_ble_eq_true rfl), (Nat.le_of_ble_eq_true rfl)⟩ dX12_give_58) hS rfl (fun locs hS => ?_)
              refine lv_if_eq (tgt := 67) S.1 S.2.1 dX12_give_61 (by decide) (fun (c7 : (f_X12_of mW o 5) = 0) => ?_) (fun (c7 : ¬ (f_X12_of mW o 5) = 0) => ?_)
              · refine lv_aload_n S.1 S.2.1 dX12_give_67 rfl (lv_at hl 0 rfl) ?_
                refine g_aft0 (st1 := []) (g_V (As := []) (rest := []) S mi_X12_keeps qw1575 (c_X12_keeps l D A w α (k) mTaped mErr mPpl mBts mUs mRa mSt mKi mWd mVal mLet mFin mNp mNb mOuts mWant mFnd mTape mNum mNam mFst mBnm mW mUn mSl mKp mnNum mnNam mnBo mnBn hB0 (by first | assumption | exact vin_d (by decide) | exact vp_in_nI (by omega) (by decide) | decide | omega)) hK hP hD hE hS (hB0 0 _ rfl) rfl rfl rfl hl.1 (Nat.le_of_ble_eq_true rfl) rfl rfl ⟨(Nat.le_of_ble_eq_true rfl), (Nat.le_of_ble_eq_true rfl)⟩ ⟨(Nat.le_of_ble_eq_true rfl), (Nat.le_of_ble_eq_true rfl)⟩ dX12_give_68) hS rfl (fun w1 H locs hQ hP hD hS => ?_)
                have hF := hF.trans hQ.2
                have hB0 : Blk w1 k (cM D α k mTaped mErr mPpl mBts ((f_X12_keeps mUs mW mUn).2) mRa mSt mKi mWd mVal mLet mFin mNp mNb mOuts mWant mFnd mTape mNum mNam mFst mBnm mW ((f_X12_keeps mUs mW mUn).1) mSl mKp mnNum mnNam mnBo mnBn) := hQ.1
                refine lv_aload_n S.1 S.2.1 dX12_give_71 rfl (lv_at hl 0 rfl) ?_
                refine lv_iload_n S.1 S.2.1 dX12_give_72 rfl (lv_at hl 1 rfl) ?_
                refine lv_iconst (v := 5) S.1 S.2.1 dX12_give_73 (by decide) ?_
                refine lv_iconst (v := 1) S.1 S.2.1 dX12_give_74 (by decide) ?_
                refine g_aft0 (st1 := []) (g_V (As := [.int o, .int 5, .int 1]) (rest := []) S mi_X12_sets qw1362 (c_X12_sets l D A w1 α (k) mTaped mErr mPpl mBts ((f_X12_keeps mUs mW mUn).2) mRa mSt mKi mWd mVal mLet mFin mNp mNb mOuts mWant mFnd mTape mNum mNam mFst mBnm mW ((f_X12_keeps mUs mW mUn).1) mSl mKp mnNum mnNam mnBo mnBn o 5 1 hB0 (by first | assumption | exact vin_d (by decide) | exact vp_in_nI (by omega) (by decide) | decide | omega) (by first | assumption | exact vin_d (by decide) | exact vp_in_nI (by omega) (by decide) | decide | omega)) hK hP hD hE hS (hB0 0 _ rfl) rfl rfl rfl hl.1 (Nat.le_of_ble_eq_true rfl) rfl rfl ⟨(Nat.le_of_ble_eq_true rfl), (Nat.le_of_ble_eq_true rfl)⟩ ⟨(Nat.le_of_ble_eq_true rfl), (Nat.le_of_ble_eq_true rfl)⟩ dX12_give_75) hS rfl (fun w2 H locs hQ hP hD hS => ?_)
                have hF := hF.trans hQ.2
                have hB0 : Blk w2 k (cM D α k mTaped mErr mPpl mBts ((f_X12_keeps mUs mW mUn).2) mRa mSt mKi mWd mVal mLet mFin mNp mNb mOuts mWant mFnd mTape mNum mNam mFst mBnm (f_X12_sets mW o 5 1) ((f_X12_keeps mUs mW mUn).1) mSl mKp mnNum mnNam mnBo mnBn) := hQ.1
                refine lv_aload_n S.1 S.2.1 dX12_give_78 rfl (lv_at hl 0 rfl) ?_
                refine lv_iload_n S.1 S.2.1 dX12_give_79 rfl (lv_at hl 1 rfl) ?_
                refine lv_bipush (v := 6) S.1 S.2.1 dX12_give_80 (by decide) ?_
                refine lv_iload_n S.1 S.2.1 dX12_give_82 rfl (lv_at hl 2 rfl) ?_
                refine g_aft0 (st1 := []) (g_V (As := [.int o, .int 6, .int c]) (rest := []) S mi_X12_sets qw1362 (c_X12_sets l D A w2 α (k) mTaped mErr mPpl mBts ((f_X12_keeps mUs mW mUn).2) mRa mSt mKi mWd mVal mLet mFin mNp mNb mOuts mWant mFnd mTape mNum mNam mFst mBnm (f_X12_sets mW o 5 1) ((f_X12_keeps mUs mW mUn).1) mSl mKp mnNum mnNam mnBo mnBn o 6 c hB0 (by first | assumption | exact vin_d (by decide) | exact vp_in_nI (by omega) (by decide) | decide | omega) (by first | assumption | exact vin_d (by decide) | exact vp_in_nI (by omega) (by decide) | decide | omega)) hK hP hD hE hS (hB0 0 _ rfl) rfl rfl rfl hl.1 (Nat.le_of_ble_eq_true rfl) rfl rfl ⟨(Nat.le_of_ble_eq_true rfl), (Nat.le_of_ble_eq_true rfl)⟩ ⟨(Nat.le_of_ble_eq_true rfl), (Nat.le_of_ble_eq_true rfl)⟩ dX12_give_83) hS rfl (fun w3 H locs hQ hP hD hS => ?_)
                have hF := hF.trans hQ.2
                have hB0 : Blk w3 k (cM D α k mTaped mErr mPpl mBts ((f_X12_keeps mUs mW mUn).2) mRa mSt mKi mWd mVal mLet mFin mNp mNb mOuts mWant mFnd mTape mNum mNam mFst mBnm (f_X12_sets (f_X12_sets mW o 5 1) o 6 c) ((f_X12_keeps mUs mW mUn).1) mSl mKp mnNum mnNam mnBo mnBn) := hQ.1
                refine lv_aload_n S.1 S.2.1 dX12_give_86 rfl (lv_at hl 0 rfl) ?_
                refine lv_iload_n S.1 S.2.1 dX12_give_87 rfl (lv_at hl 1 rfl) ?_
                refine lv_bipush (v := 7) S.1 S.2.1 dX12_give_88 (by decide) ?_
                refine lv_iload_n S.1 S.2.1 dX12_give_90 rfl (lv_at hl 3 rfl) ?_
                refine g_aft0 (st1 := []) (g_V (As := [.int o, .int 7, .int b]) (rest := []) S mi_X12_sets qw1362 (c_X12_sets l D A w3 α (k) mTaped mErr mPpl mBts ((f_X12_keeps mUs mW mUn).2) mRa mSt mKi mWd mVal mLet mFin mNp mNb mOuts mWant mFnd mTape mNum mNam mFst mBnm (f_X12_sets (f_X12_sets mW o 5 1) o 6 c) ((f_X12_keeps mUs mW mUn).1) mSl mKp mnNum mnNam mnBo mnBn o 7 b hB0 (by first | assumption | exact vin_d (by decide) | exact vp_in_nI (by omega) (by decide) | decide | omega) (by first | assumption | exact vin_d (by decide) | exact vp_in_nI (by omega) (by decide) | decide | omega)) hK hP hD hE hS (hB0 0 _ rfl) rfl rfl rfl hl.1 (Nat.le_of_ble_eq_true rfl) rfl rfl ⟨(Nat.le_of_ble_eq_true rfl), (Nat.le_of_ble_eq_true rfl)⟩ ⟨(Nat.le_of_ble_eq_true rfl), (Nat.le_of_ble_eq_true rfl)⟩ dX12_give_91) hS rfl (fun w4 H locs hQ hP hD hS => ?_)
                have hF := hF.trans hQ.2
                have hB0 : Blk w4 k (cM D α k mTaped mErr mPpl mBts ((f_X12_keeps mUs mW mUn).2) mRa mSt mKi mWd mVal mLet mFin mNp mNb mOuts mWant mFnd mTape mNum mNam mFst mBnm (f_X12_sets (f_X12_sets (f_X12_sets mW o 5 1) o 6 c) o 7 b) ((f_X12_keeps mUs mW mUn).1) mSl mKp mnNum mnNam mnBo mnBn) := hQ.1
                refine lv_aload_n S.1 S.2.1 dX12_give_94 rfl (lv_at hl 0 rfl) ?_
                refine lv_iload_n S.1 S.2.1 dX12_give_95 rfl (lv_at hl 2 rfl) ?_
                refine g_aftR0 (st1 := [.int (f_X12_carriedBy mPpl (f_X12_sets (f_X12_sets (f_X12_sets mW o 5 1) o 6 c) o 7 b) c)]) (g_V (As := [.int c]) (rest := []) S mi_X12_carriedBy qw1641 (c_X12_carriedBy l D A w4 α (k) mTaped mErr mPpl mBts ((f_X12_keeps mUs mW mUn).2) mRa mSt mKi mWd mVal mLet mFin mNp mNb mOuts mWant mFnd mTape mNum mNam mFst mBnm (f_X12_sets (f_X12_sets (f_X12_sets mW o 5 1) o 6 c) o 7 b) ((f_X12_keeps mUs mW mUn).1) mSl mKp mnNum mnNam mnBo mnBn c hB0 (by first | assumption | exact vin_d (by decide) | exact vp_in_nI (by omega) (by decide) | decide | omega)) hK hP hD hE hS (hB0 0 _ rfl) rfl rfl rfl hl.1 (Nat.le_of_ble_eq_true rfl) rfl rfl ⟨(Nat.le_of_ble_eq_true rfl), (Nat.le_of_ble_eq_true rfl)⟩ ⟨(Nat.le_of_ble_eq_true rfl), (Nat.le_of_ble_eq_true rfl)⟩ dX12_give_96) hS rfl (fun locs hS => ?_)
                refine g_aftR0 (st1 := [.int (f_X12_ones (f_X12_carriedBy mPpl (f_X12_sets (f_X12_sets (f_X12_sets mW o 5 1) o 6 c) o 7 b) c))]) (g_St (As := [.int (f_X12_carriedBy mPpl (f_X12_sets (f_X12_sets (f_X12_sets mW o 5 1) o 6 c) o 7 b) c)]) (rest := []) S ms_X12_ones qw1645 (c_X12_ones l D A w4 α (f_X12_carriedBy mPpl (f_X12_sets (f_X12_sets (f_X12_sets mW o 5 1) o 6 c) o 7 b) c)) hK hP hD hE hS rfl rfl hl.1 (Nat.le_of_ble_eq_true rfl) rfl rfl ⟨(Nat.le_of_ble_eq_true rfl), (Nat.le_of_ble_eq_true rfl)⟩ ⟨(Nat.le_of_ble_eq_true rfl), (Nat.le_of_ble_eq_true rfl)⟩ dX12_give_99) hS rfl (fun locs hS => ?_)
                have hf : (f_X12_give mPpl mUs mW mUn o c b) = ((f_X12_ones (f_X12_carriedBy mPpl (f_X12_sets (f_X12_sets (f_X12_sets mW o 5 1) o 6 c) o 7 b) c)), (f_X12_keeps mUs mW mUn).1, (f_X12_keeps mUs mW mUn).2, (f_X12_sets (f_X12_sets (f_X12_sets mW o 5 1) o 6 c) o 7 b)) := (cd_t c1).trans ((cd_t c2).trans ((if_neg c3).trans ((if_pos c4).trans ((cd_f c5).trans ((cd_f c6).trans (if_pos c7))))))
                exact g_iret S hr hlk hP hD hS (by rw [hf] <;> rfl) (⟨by rw [hf]; exact hB0, hF⟩) dX12_give_102
              · refine lv_bipush (v := (-4)) S.1 S.2.1 dX12_give_64 (by decide) ?_
                have hf : (f_X12_give mPpl mUs mW mUn o c b) = ((-4), mUn, mUs, mW) := (cd_t c1).trans ((cd_t c2).trans ((if_neg c3).trans ((if_pos c4).trans ((cd_f c5).trans ((cd_f c6).trans (if_neg c7))))))
                exact g_iret S hr hlk hP hD hS (by rw [hf] <;> rfl) (⟨by rw [hf]; exact hB0, hF⟩) dX12_give_66
            · refine lv_bipush (v := (-3)) S.1 S.2.1 dX12_give_52 (by decide) ?_
              have hf : (f_X12_give mPpl mUs mW mUn o c b) = ((-3), mUn, mUs, mW) := (cd_t c1).trans ((cd_t c2).trans ((if_neg c3).trans ((if_pos c4).trans ((cd_f c5).trans (cd_t c6)))))
              exact g_iret S hr hlk hP hD hS (by rw [hf] <;> rfl) (⟨by rw [hf]; exact hB0, hF⟩) dX12_give_54
        · refine lv_iload_n S.1 S.2.1 dX12_give_27 rfl (lv_at hl 3 rfl) ?_
          refine g_aftR0 (st1 := [.int (b2i (f_X12_isBasket b))]) (g_St (As := [.int b]) (rest := []) S ms_X12_isBasket qw1637 (c_X12_isBasket l D A w α b) hK hP hD hE hS rfl rfl hl.1 (Nat.le_of_ble_eq_true rfl) rfl rfl ⟨(Nat.le_of_ble_eq_true rfl), (Nat.le_of_ble_eq_true rfl)⟩ ⟨(Nat.le_of_ble_eq_true rfl), (Nat.le_of_ble_eq_true rfl)⟩ dX12_give_28) hS rfl (fun locs hS => ?_)
          refine g_bifne (b := (f_X12_isBasket b)) (tgt := 36) S dX12_give_31 (by decide) (fun (c8 : (f_X12_isBasket b) = true) => ?_) (fun (c8 : (f_X12_isBasket b) = false) => ?_)
          · refine lv_aload_n S.1 S.2.1 dX12_give_36 rfl (lv_at hl 0 rfl) ?_
            refine lv_iload_n S.1 S.2.1 dX12_give_37 rfl (lv_at hl 1 rfl) ?_
            refine g_aftR0 (st1 := [.int (b2i (f_X12_isAtSea mW o))]) (g_V (As := [.int o]) (rest := []) S mi_X12_isAtSea qw1583 (c_X12_isAtSea l D A w α (k) mTaped mErr mPpl mBts mUs mRa mSt mKi mWd mVal mLet mFin mNp mNb mOuts mWant mFnd mTape mNum mNam mFst mBnm mW mUn mSl mKp mnNum mnNam mnBo mnBn o hB0 (by first | assumption | exact vin_d (by decide) | exact vp_in_nI (by omega) (by decide) | decide | omega)) hK hP hD hE hS (hB0 0 _ rfl) rfl rfl rfl hl.1 (Nat.le_of_ble_eq_true rfl) rfl rfl ⟨(Nat.le_of_ble_eq_true rfl), (Nat.le_of_ble_eq_true rfl)⟩ ⟨(Nat.le_of_ble_eq_true rfl), (Nat.le_of_ble_eq_true rfl)⟩ dX12_give_38) hS rfl (fun locs hS => ?_)
            refine g_bifne (b := (f_X12_isAtSea mW o)) (tgt := 52) S dX12_give_41 (by decide) (fun (c9 : (f_X12_isAtSea mW o) = true) => ?_) (fun (c9 : (f_X12_isAtSea mW o) = false) => ?_)
            · refine lv_bipush (v := (-3)) S.1 S.2.1 dX12_give_52 (by decide) ?_
              have hf : (f_X12_give mPpl mUs mW mUn o c b) = ((-3), mUn, mUs, mW) := (cd_t c1).trans ((cd_t c2).trans ((if_neg c3).trans ((if_neg c4).trans ((cd_t c8).trans (cd_t c9)))))
              exact g_iret S hr hlk hP hD hS (by rw [hf] <;> rfl) (⟨by rw [hf]; exact hB0, hF⟩) dX12_give_54
            · refine lv_aload_n S.1 S.2.1 dX12_give_44 rfl (lv_at hl 0 rfl) ?_
              refine lv_iload_n S.1 S.2.1 dX12_give_45 rfl (lv_at hl 2 rfl) ?_
              refine g_aftR0 (st1 := [.int (b2i (f_X12_isAtSea mW c))]) (g_V (As := [.int c]) (rest := []) S mi_X12_isAtSea qw1583 (c_X12_isAtSea l D A w α (k) mTaped mErr mPpl mBts mUs mRa mSt mKi mWd mVal mLet mFin mNp mNb mOuts mWant mFnd mTape mNum mNam mFst mBnm mW mUn mSl mKp mnNum mnNam mnBo mnBn c hB0 (by first | assumption | exact vin_d (by decide) | exact vp_in_nI (by omega) (by decide) | decide | omega)) hK hP hD hE hS (hB0 0 _ rfl) rfl rfl rfl hl.1 (Nat.le_of_ble_eq_true rfl) rfl rfl ⟨(Nat.le_of_ble_eq_true rfl), (Nat.le_of_ble_eq_true rfl)⟩ ⟨(Nat.le_of_ble_eq_true rfl), (Nat.le_of_ble_eq_true rfl)⟩ dX12_give_46) hS rfl (fun locs hS => ?_)
              refine g_bifeq (b := (f_X12_isAtSea mW c)) (tgt := 55) S dX12_give_49 (by decide) (fun (c10 : (f_X12_isAtSea mW c) = false) => ?_) (fun (c10 : (f_X12_isAtSea mW c) = true) => ?_)
              · refine lv_aload_n S.1 S.2.1 dX12_give_55 rfl (lv_at hl 0 rfl) ?_
                refine lv_iload_n S.1 S.2.1 dX12_give_56 rfl (lv_at hl 1 rfl) ?_
                refine lv_iconst (v := 5) S.1 S.2.1 dX12_give_57 (by decide) ?_
                refine g_aftR0 (st1 := [.int (f_X12_of mW o 5)]) (g_V (As := [.int o, .int 5]) (rest := []) S mi_X12_of qw1579 (c_X12_of l D A w α (k) mTaped mErr mPpl mBts mUs mRa mSt mKi mWd mVal mLet mFin mNp mNb mOuts mWant mFnd mTape mNum mNam mFst mBnm mW mUn mSl mKp mnNum mnNam mnBo mnBn o 5 hB0 (by first | assumption | exact vin_d (by decide) | exact vp_in_nI (by omega) (by decide) | decide | omega) (by first | assumption | exact vin_d (by decide) | exact vp_in_nI (by omega) (by decide) | decide | omega)) hK hP hD hE hS (hB0 0 _ rfl) rfl rfl rfl hl.1 (Nat.le_of_ble_eq_true rfl) rfl rfl ⟨(Nat.le_of_ble_eq_true rfl), (Nat.le_of_ble_eq_true rfl)⟩ ⟨(Nat.le_of_ble_eq_true rfl), (Nat.le_of_ble_eq_true rfl)⟩ dX12_give_58) hS rfl (fun locs hS => ?_)
                refine lv_if_eq (tgt := 67) S.1 S.2.1 dX12_give_61 (by decide) (fun (c11 : (f_X12_of mW o 5) = 0) => ?_) (fun (c11 : ¬ (f_X12_of mW o 5) = 0) => ?_)
                · refine lv_aload_n S.1 S.2.1 dX12_give_67 rfl (lv_at hl 0 rfl) ?_
                  refine g_aft0 (st1 := []) (g_V (As := []) (rest := []) S mi_X12_keeps qw1575 (c_X12_keeps l D A w α (k) mTaped mErr mPpl mBts mUs mRa mSt mKi mWd mVal mLet mFin mNp mNb mOuts mWant mFnd mTape mNum mNam mFst mBnm mW mUn mSl mKp mnNum mnNam mnBo mnBn hB0 (by first | assumption | exact vin_d (by decide) | exact vp_in_nI (by omega) (by decide) | decide | omega)) hK hP hD hE hS (hB0 0 _ rfl) rfl rfl rfl hl.1 (Nat.le_of_ble_eq_true rfl) rfl rfl ⟨(Nat.le_of_ble_eq_true rfl), (Nat.le_of_ble_eq_true rfl)⟩ ⟨(Nat.le_of_ble_eq_true rfl), (Nat.le_of_ble_eq_true rfl)⟩ dX12_give_68) hS rfl (fun w5 H locs hQ hP hD hS => ?_)
                  have hF := hF.trans hQ.2
                  have hB0 : Blk w5 k (cM D α k mTaped mErr mPpl mBts ((f_X12_keeps mUs mW mUn).2) mRa mSt mKi mWd mVal mLet mFin mNp mNb mOuts mWant mFnd mTape mNum mNam mFst mBnm mW ((f_X12_keeps mUs mW mUn).1) mSl mKp mnNum mnNam mnBo mnBn) := hQ.1
                  refine lv_aload_n S.1 S.2.1 dX12_give_71 rfl (lv_at hl 0 rfl) ?_
                  refine lv_iload_n S.1 S.2.1 dX12_give_72 rfl (lv_at hl 1 rfl) ?_
                  refine lv_iconst (v := 5) S.1 S.2.1 dX12_give_73 (by decide) ?_
                  refine lv_iconst (v := 1) S.1 S.2.1 dX12_give_74 (by decide) ?_
                  refine g_aft0 (st1 := []) (g_V (As := [.int o, .int 5, .int 1]) (rest := []) S mi_X12_sets qw1362 (c_X12_sets l D A w5 α (k) mTaped mErr mPpl mBts ((f_X12_keeps mUs mW mUn).2) mRa mSt mKi mWd mVal mLet mFin mNp mNb mOuts mWant mFnd mTape mNum mNam mFst mBnm mW ((f_X12_keeps mUs mW mUn).1) mSl mKp mnNum mnNam mnBo mnBn o 5 1 hB0 (by first | assumption | exact vin_d (by decide) | exact vp_in_nI (by omega) (by decide) | decide | omega) (by first | assumption | exact vin_d (by decide) | exact vp_in_nI (by omega) (by decide) | decide | omega)) hK hP hD hE hS (hB0 0 _ rfl) rfl rfl rfl hl.1 (Nat.le_of_ble_eq_true rfl) rfl rfl ⟨(Nat.le_of_ble_eq_true rfl), (Nat.le_of_ble_eq_true rfl)⟩ ⟨(Nat.le_of_ble_eq_true rfl), (Nat.le_of_ble_eq_true rfl)⟩ dX12_give_75) hS rfl (fun w6 H locs hQ hP hD hS => ?_)
                  have hF := hF.trans hQ.2
                  have hB0 : Blk w6 k (cM D α k mTaped mErr mPpl mBts ((f_X12_keeps mUs mW mUn).2) mRa mSt mKi mWd mVal mLet mFin mNp mNb mOuts mWant mFnd mTape mNum mNam mFst mBnm (f_X12_sets mW o 5 1) ((f_X12_keeps mUs mW mUn).1) mSl mKp mnNum mnNam mnBo mnBn) := hQ.1
                  refine lv_aload_n S.1 S.2.1 dX12_give_78 rfl (lv_at hl 0 rfl) ?_
                  refine lv_iload_n S.1 S.2.1 dX12_give_79 rfl (lv_at hl 1 rfl) ?_
                  refine lv_bipush (v := 6) S.1 S.2.1 dX12_give_80 (by decide) ?_
                  refine lv_iload_n S.1 S.2.1 dX12_give_82 rfl (lv_at hl 2 rfl) ?_
                  refine g_aft0 (st1 := []) (g_V (As := [.int o, .int 6, .int c]) (rest := []) S mi_X12_sets qw1362 (c_X12_sets l D A w6 α (k) mTaped mErr mPpl mBts ((f_X12_keeps mUs mW mUn).2) mRa mSt mKi mWd mVal mLet mFin mNp mNb mOuts mWant mFnd mTape mNum mNam mFst mBnm (f_X12_sets mW o 5 1) ((f_X12_keeps mUs mW mUn).1) mSl mKp mnNum mnNam mnBo mnBn o 6 c hB0 (by first | assumption | exact vin_d (by decide) | exact vp_in_nI (by omega) (by decide) | decide | omega) (by first | assumption | exact vin_d (by decide) | exact vp_in_nI (by omega) (by decide) | decide | omega)) hK hP hD hE hS (hB0 0 _ rfl) rfl rfl rfl hl.1 (Nat.le_of_ble_eq_true rfl) rfl rfl ⟨(Nat.le_of_ble_eq_true rfl), (Nat.le_of_ble_eq_true rfl)⟩ ⟨(Nat.le_of_ble_eq_true rfl), (Nat.le_of_ble_eq_true rfl)⟩ dX12_give_83) hS rfl (fun w7 H locs hQ hP hD hS => ?_)
                  have hF := hF.trans hQ.2
                  have hB0 : Blk w7 k (cM D α k mTaped mErr mPpl mBts ((f_X12_keeps mUs mW mUn).2) mRa mSt mKi mWd mVal mLet mFin mNp mNb mOuts mWant mFnd mTape mNum mNam mFst mBnm (f_X12_sets (f_X12_sets mW o 5 1) o 6 c) ((f_X12_keeps mUs mW mUn).1) mSl mKp mnNum mnNam mnBo mnBn) := hQ.1
                  refine lv_aload_n S.1 S.2.1 dX12_give_86 rfl (lv_at hl 0 rfl) ?_
                  refine lv_iload_n S.1 S.2.1 dX12_give_87 rfl (lv_at hl 1 rfl) ?_
                  refine lv_bipush (v := 7) S.1 S.2.1 dX12_give_88 (by decide) ?_
                  refine lv_iload_n S.1 S.2.1 dX12_give_90 rfl (lv_at hl 3 rfl) ?_
                  refine g_aft0 (st1 := []) (g_V (As := [.int o, .int 7, .int b]) (rest := []) S mi_X12_sets qw1362 (c_X12_sets l D A w7 α (k) mTaped mErr mPpl mBts ((f_X12_keeps mUs mW mUn).2) mRa mSt mKi mWd mVal mLet mFin mNp mNb mOuts mWant mFnd mTape mNum mNam mFst mBnm (f_X12_sets (f_X12_sets mW o 5 1) o 6 c) ((f_X12_keeps mUs mW mUn).1) mSl mKp mnNum mnNam mnBo mnBn o 7 b hB0 (by first | assumption | exact vin_d (by decide) | exact vp_in_nI (by omega) (by decide) | decide | omega) (by first | assumption | exact vin_d (by decide) | exact vp_in_nI (by omega) (by decide) | decide | omega)) hK hP hD hE hS (hB0 0 _ rfl) rfl rfl rfl hl.1 (Nat.le_of_ble_eq_true rfl) rfl rfl ⟨(Nat.le_of_ble_eq_true rfl), (Nat.le_of_ble_eq_true rfl)⟩ ⟨(Nat.le_of_ble_eq_true rfl), (Nat.le_of_ble_eq_true rfl)⟩ dX12_give_91) hS rfl (fun w8 H locs hQ hP hD hS => ?_)
                  have hF := hF.trans hQ.2
                  have hB0 : Blk w8 k (cM D α k mTaped mErr mPpl mBts ((f_X12_keeps mUs mW mUn).2) mRa mSt mKi mWd mVal mLet mFin mNp mNb mOuts mWant mFnd mTape mNum mNam mFst mBnm (f_X12_sets (f_X12_sets (f_X12_sets mW o 5 1) o 6 c) o 7 b) ((f_X12_keeps mUs mW mUn).1) mSl mKp mnNum mnNam mnBo mnBn) := hQ.1
                  refine lv_aload_n S.1 S.2.1 dX12_give_94 rfl (lv_at hl 0 rfl) ?_
                  refine lv_iload_n S.1 S.2.1 dX12_give_95 rfl (lv_at hl 2 rfl) ?_
                  refine g_aftR0 (st1 := [.int (f_X12_carriedBy mPpl (f_X12_sets (f_X12_sets (f_X12_sets mW o 5 1) o 6 c) o 7 b) c)]) (g_V (As := [.int c]) (rest := []) S mi_X12_carriedBy qw1641 (c_X12_carriedBy l D A w8 α (k) mTaped mErr mPpl mBts ((f_X12_keeps mUs mW mUn).2) mRa mSt mKi mWd mVal mLet mFin mNp mNb mOuts mWant mFnd mTape mNum mNam mFst mBnm (f_X12_sets (f_X12_sets (f_X12_sets mW o 5 1) o 6 c) o 7 b) ((f_X12_keeps mUs mW mUn).1) mSl mKp mnNum mnNam mnBo mnBn c hB0 (by first | assumption | exact vin_d (by decide) | exact vp_in_nI (by omega) (by decide) | decide | omega)) hK hP hD hE hS (hB0 0 _ rfl) rfl rfl rfl hl.1 (Nat.le_of_ble_eq_true rfl) rfl rfl ⟨(Nat.le_of_ble_eq_true rfl), (Nat.le_of_ble_eq_true rfl)⟩ ⟨(Nat.le_of_ble_eq_true rfl), (Nat.le_of_ble_eq_true rfl)⟩ dX12_give_96) hS rfl (fun locs hS => ?_)
                  refine g_aftR0 (st1 := [.int (f_X12_ones (f_X12_carriedBy mPpl (f_X12_sets (f_X12_sets (f_X12_sets mW o 5 1) o 6 c) o 7 b) c))]) (g_St (As := [.int (f_X12_carriedBy mPpl (f_X12_sets (f_X12_sets (f_X12_sets mW o 5 1) o 6 c) o 7 b) c)]) (rest := []) S ms_X12_ones qw1645 (c_X12_ones l D A w8 α (f_X12_carriedBy mPpl (f_X12_sets (f_X12_sets (f_X12_sets mW o 5 1) o 6 c) o 7 b) c)) hK hP hD hE hS rfl rfl hl.1 (Nat.le_of_ble_eq_true rfl) rfl rfl ⟨(Nat.le_of_ble_eq_true rfl), (Nat.le_of_ble_eq_true rfl)⟩ ⟨(Nat.le_of_ble_eq_true rfl), (Nat.le_of_ble_eq_true rfl)⟩ dX12_give_99) hS rfl (fun locs hS => ?_)
                  have hf : (f_X12_give mPpl mUs mW mUn o c b) = ((f_X12_ones (f_X12_carriedBy mPpl (f_X12_sets (f_X12_sets (f_X12_sets mW o 5 1) o 6 c) o 7 b) c)), (f_X12_keeps mUs mW mUn).1, (f_X12_keeps mUs mW mUn).2, (f_X12_sets (f_X12_sets (f_X12_sets mW o 5 1) o 6 c) o 7 b)) := (cd_t c1).trans ((cd_t c2).trans ((if_neg c3).trans ((if_neg c4).trans ((cd_t c8).trans ((cd_f c9).trans ((cd_f c10).trans (if_pos c11)))))))
                  exact g_iret S hr hlk hP hD hS (by rw [hf] <;> rfl) (⟨by rw [hf]; exact hB0, hF⟩) dX12_give_102
                · refine lv_bipush (v := (-4)) S.1 S.2.1 dX12_give_64 (by decide) ?_
                  have hf : (f_X12_give mPpl mUs mW mUn o c b) = ((-4), mUn, mUs, mW) := (cd_t c1).trans ((cd_t c2).trans ((if_neg c3).trans ((if_neg c4).trans ((cd_t c8).trans ((cd_f c9).trans ((cd_f c10).trans (if_neg c11)))))))
                  exact g_iret S hr hlk hP hD hS (by rw [hf] <;> rfl) (⟨by rw [hf]; exact hB0, hF⟩) dX12_give_66
              · refine lv_bipush (v := (-3)) S.1 S.2.1 dX12_give_52 (by decide) ?_
                have hf : (f_X12_give mPpl mUs mW mUn o c b) = ((-3), mUn, mUs, mW) := (cd_t c1).trans ((cd_t c2).trans ((if_neg c3).trans ((if_neg c4).trans ((cd_t c8).trans ((cd_f c9).trans (cd_t c10))))))
                exact g_iret S hr hlk hP hD hS (by rw [hf] <;> rfl) (⟨by rw [hf]; exact hB0, hF⟩) dX12_give_54
          · refine lv_iconst (v := (-1)) S.1 S.2.1 dX12_give_34 (by decide) ?_
            have hf : (f_X12_give mPpl mUs mW mUn o c b) = ((-1), mUn, mUs, mW) := (cd_t c1).trans ((cd_t c2).trans ((if_neg c3).trans ((if_neg c4).trans (cd_f c8))))
            exact g_iret S hr hlk hP hD hS (by rw [hf] <;> rfl) (⟨by rw [hf]; exact hB0, hF⟩) dX12_give_35
def f_X12_isBackFromVote (mW : Nat → Int32) (p : Int32) : (Nat → Int32) := (bif (f_X12_isLaid (f_X12_sets mW p 4 0) p) then (if 0 ≤ (f_X12_of (f_X12_sets mW p 4 0) p 6) then (f_X12_isLaidNoMore (f_X12_sets (f_X12_sets mW p 4 0) p 5 1) p) else (f_X12_isLaidNoMore (f_X12_sets (f_X12_sets mW p 4 0) p 5 0) p)) else (f_X12_sets mW p 4 0))
set_option maxHeartbeats 4000000 in
set_option maxRecDepth 100000 in
theorem c_X12_isBackFromVote (l : Launch) (D : va_G) (A : Nat → Prop) (w : va_W) (α : Nat → Nat) (k : Nat) (mTaped : Int32) (mErr : Int32) (mPpl : Int32) (mBts : Int32) (mUs : Int32) (mRa : Int32) (mSt : Int32) (mKi : Int32) (mWd : Int64) (mVal : Int32) (mLet : Int32) (mFin : Int32) (mNp : Int32) (mNb : Int32) (mOuts : Int32) (mWant : Int32) (mFnd : Int32) (mTape : Nat → Int32) (mNum : Nat → Int32) (mNam : Nat → Int32) (mFst : Nat → Int32) (mBnm : Nat → Int32) (mW : Nat → Int32) (mUn : Nat → Int32) (mSl : Nat → Int32) (mKp : Nat → Int32) (mnNum : Nat → Int32) (mnNam : Nat → Int32) (mnBo : Nat → Int32) (mnBn : Nat → Int32) (p : Int32) (hB0 : Blk w k (cM D α k mTaped mErr mPpl mBts mUs mRa mSt mKi mWd mVal mLet mFin mNp mNb mOuts mWant mFnd mTape mNum mNam mFst mBnm mW mUn mSl mKp mnNum mnNam mnBo mnBn)) (hy0 : vp_in p 20) : Met l yX12_isBackFromVote (ws_ yX12_isBackFromVote cX12_isBackFromVote 2 none) ({ frames := 2, cells := 0, slots := 0, locals := 44 }) (gPre D A [.ref (α (k)), .int p] w) (gQ D A none (fun w1 => Blk w1 k (cM D α k mTaped mErr mPpl mBts mUs mRa mSt mKi mWd mVal mLet mFin mNp mNb mOuts mWant mFnd mTape mNum mNam mFst mBnm (f_X12_isBackFromVote mW p) mUn mSl mKp mnNum mnNam mnBo mnBn) ∧ Same w w1 k 14)) 0 0 A := by
  refine g_met [(0, .ref (α (k))), (1, .int p)] (plainFor_of_name (by decide)) (Nat.le_of_ble_eq_true rfl) rfl (fun pg en s mi ar below me co ls S hK hP hD hE hS hr hlk hnm hl => ?_)
  have hF : Same w w k 14 := Same.rf
  refine lv_aload_n S.1 S.2.1 dX12_isBackFromVote_0 rfl (lv_at hl 0 rfl) ?_
  refine lv_iload_n S.1 S.2.1 dX12_isBackFromVote_1 rfl (lv_at hl 1 rfl) ?_
  refine lv_iconst (v := 4) S.1 S.2.1 dX12_isBackFromVote_2 (by decide) ?_
  refine lv_iconst (v := 0) S.1 S.2.1 dX12_isBackFromVote_3 (by decide) ?_
  refine g_aft0 (st1 := []) (g_V (As := [.int p, .int 4, .int 0]) (rest := []) S mi_X12_sets qw1362 (c_X12_sets l D A w α (k) mTaped mErr mPpl mBts mUs mRa mSt mKi mWd mVal mLet mFin mNp mNb mOuts mWant mFnd mTape mNum mNam mFst mBnm mW mUn mSl mKp mnNum mnNam mnBo mnBn p 4 0 hB0 (by first | assumption | exact vin_d (by decide) | exact vp_in_nI (by omega) (by decide) | decide | omega) (by first | assumption | exact vin_d (by decide) | exact vp_in_nI (by omega) (by decide) | decide | omega)) hK hP hD hE hS (hB0 0 _ rfl) rfl rfl rfl hl.1 (Nat.le_of_ble_eq_true rfl) rfl rfl ⟨(Nat.le_of_ble_eq_true rfl), (Nat.le_of_ble_eq_true rfl)⟩ ⟨(Nat.le_of_ble_eq_true rfl), (Nat.le_of_ble_eq_true rfl)⟩ dX12_isBackFromVote_4) hS rfl (fun w1 H locs hQ hP hD hS => ?_)
  have hF := hF.trans hQ.2
  have hB0 : Blk w1 k (cM D α k mTaped mErr mPpl mBts mUs mRa mSt mKi mWd mVal mLet mFin mNp mNb mOuts mWant mFnd mTape mNum mNam mFst mBnm (f_X12_sets mW p 4 0) mUn mSl mKp mnNum mnNam mnBo mnBn) := hQ.1
  refine lv_aload_n S.1 S.2.1 dX12_isBackFromVote_7 rfl (lv_at hl 0 rfl) ?_
  refine lv_iload_n S.1 S.2.1 dX12_isBackFromVote_8 rfl (lv_at hl 1 rfl) ?_
  refine g_aftR0 (st1 := [.int (b2i (f_X12_isLaid (f_X12_sets mW p 4 0) p))]) (g_V (As := [.int p]) (rest := []) S mi_X12_isLaid qw1629 (c_X12_isLaid l D A w1 α (k) mTaped mErr mPpl mBts mUs mRa mSt mKi mWd mVal mLet mFin mNp mNb mOuts mWant mFnd mTape mNum mNam mFst mBnm (f_X12_sets mW p 4 0) mUn mSl mKp mnNum mnNam mnBo mnBn p hB0 (by first | assumption | exact vin_d (by decide) | exact vp_in_nI (by omega) (by decide) | decide | omega)) hK hP hD hE hS (hB0 0 _ rfl) rfl rfl rfl hl.1 (Nat.le_of_ble_eq_true rfl) rfl rfl ⟨(Nat.le_of_ble_eq_true rfl), (Nat.le_of_ble_eq_true rfl)⟩ ⟨(Nat.le_of_ble_eq_true rfl), (Nat.le_of_ble_eq_true rfl)⟩ dX12_isBackFromVote_9) hS rfl (fun locs hS => ?_)
  refine g_bifeq (b := (f_X12_isLaid (f_X12_sets mW p 4 0) p)) (tgt := 41) S dX12_isBackFromVote_12 (by decide) (fun (c1 : (f_X12_isLaid (f_X12_sets mW p 4 0) p) = false) => ?_) (fun (c1 : (f_X12_isLaid (f_X12_sets mW p 4 0) p) = true) => ?_)
  · have hf : (f_X12_isBackFromVote mW p) = (f_X12_sets mW p 4 0) := cd_f c1
    exact g_vret S hr hlk hP hD hS (rfl) (⟨by rw [hf]; exact hB0, hF⟩) dX12_isBackFromVote_41
  · refine lv_aload_n S.1 S.2.1 dX12_isBackFromVote_15 rfl (lv_at hl 0 rfl) ?_
    refine lv_iload_n S.1 S.2.1 dX12_isBackFromVote_16 rfl (lv_at hl 1 rfl) ?_
    refine lv_iconst (v := 5) S.1 S.2.1 dX12_isBackFromVote_17 (by decide) ?_
    refine lv_aload_n S.1 S.2.1 dX12_isBackFromVote_18 rfl (lv_at hl 0 rfl) ?_
    refine lv_iload_n S.1 S.2.1 dX12_isBackFromVote_19 rfl (lv_at hl 1 rfl) ?_
    refine lv_bipush (v := 6) S.1 S.2.1 dX12_isBackFromVote_20 (by decide) ?_
    refine g_aftR0 (st1 := [.int (f_X12_of (f_X12_sets mW p 4 0) p 6), .int 5, .int p, .ref (α (k))]) (g_V (As := [.int p, .int 6]) (rest := [.int 5, .int p, .ref (α (k))]) S mi_X12_of qw1579 (c_X12_of l D A w1 α (k) mTaped mErr mPpl mBts mUs mRa mSt mKi mWd mVal mLet mFin mNp mNb mOuts mWant mFnd mTape mNum mNam mFst mBnm (f_X12_sets mW p 4 0) mUn mSl mKp mnNum mnNam mnBo mnBn p 6 hB0 (by first | assumption | exact vin_d (by decide) | exact vp_in_nI (by omega) (by decide) | decide | omega) (by first | assumption | exact vin_d (by decide) | exact vp_in_nI (by omega) (by decide) | decide | omega)) hK hP hD hE hS (hB0 0 _ rfl) rfl rfl rfl hl.1 (Nat.le_of_ble_eq_true rfl) rfl rfl ⟨(Nat.le_of_ble_eq_true rfl), (Nat.le_of_ble_eq_true rfl)⟩ ⟨(Nat.le_of_ble_eq_true rfl), (Nat.le_of_ble_eq_true rfl)⟩ dX12_isBackFromVote_22) hS rfl (fun locs hS => ?_)
    refine lv_if_ge (tgt := 32) S.1 S.2.1 dX12_isBackFromVote_25 (by decide) (fun (c2 : 0 ≤ (f_X12_of (f_X12_sets mW p 4 0) p 6)) => ?_) (fun (c2 : ¬ 0 ≤ (f_X12_of (f_X12_sets mW p 4 0) p 6)) => ?_)
    · refine lv_iconst (v := 1) S.1 S.2.1 dX12_isBackFromVote_32 (by decide) ?_
      refine g_aft0 (st1 := []) (g_V (As := [.int p, .int 5, .int 1]) (rest := []) S mi_X12_sets qw1362 (c_X12_sets l D A w1 α (k) mTaped mErr mPpl mBts mUs mRa mSt mKi mWd mVal mLet mFin mNp mNb mOuts mWant mFnd mTape mNum mNam mFst mBnm (f_X12_sets mW p 4 0) mUn mSl mKp mnNum mnNam mnBo mnBn p 5 1 hB0 (by first | assumption | exact vin_d (by decide) | exact vp_in_nI (by omega) (by decide) | decide | omega) (by first | assumption | exact vin_d (by decide) | exact vp_in_nI (by omega) (by decide) | decide | omega)) hK hP hD hE hS (hB0 0 _ rfl) rfl rfl rfl hl.1 (Nat.le_of_ble_eq_true rfl) rfl rfl ⟨(Nat.le_of_ble_eq_true rfl), (Nat.le_of_ble_eq_true rfl)⟩ ⟨(Nat.le_of_ble_eq_true rfl), (Nat.le_of_ble_eq_true rfl)⟩ dX12_isBackFromVote_33) hS rfl (fun w2 H locs hQ hP hD hS => ?_)
      have hF := hF.trans hQ.2
      have hB0 : Blk w2 k (cM D α k mTaped mErr mPpl mBts mUs mRa mSt mKi mWd mVal mLet mFin mNp mNb mOuts mWant mFnd mTape mNum mNam mFst mBnm (f_X12_sets (f_X12_sets mW p 4 0) p 5 1) mUn mSl mKp mnNum mnNam mnBo mnBn) := hQ.1
      refine lv_aload_n S.1 S.2.1 dX12_isBackFromVote_36 rfl (lv_at hl 0 rfl) ?_
      refine lv_iload_n S.1 S.2.1 dX12_isBackFromVote_37 rfl (lv_at hl 1 rfl) ?_
      refine g_aft0 (st1 := []) (g_V (As := [.int p]) (rest := []) S mi_X12_isLaidNoMore qw1370 (c_X12_isLaidNoMore l D A w2 α (k) mTaped mErr mPpl mBts mUs mRa mSt mKi mWd mVal mLet mFin mNp mNb mOuts mWant mFnd mTape mNum mNam mFst mBnm (f_X12_sets (f_X12_sets mW p 4 0) p 5 1) mUn mSl mKp mnNum mnNam mnBo mnBn p hB0 (by first | assumption | exact vin_d (by decide) | exact vp_in_nI (by omega) (by decide) | decide | omega)) hK hP hD hE hS (hB0 0 _ rfl) rfl rfl rfl hl.1 (Nat.le_of_ble_eq_true rfl) rfl rfl ⟨(Nat.le_of_ble_eq_true rfl), (Nat.le_of_ble_eq_true rfl)⟩ ⟨(Nat.le_of_ble_eq_true rfl), (Nat.le_of_ble_eq_true rfl)⟩ dX12_isBackFromVote_38) hS rfl (fun w3 H locs hQ hP hD hS => ?_)
      have hF := hF.trans hQ.2
      have hB0 : Blk w3 k (cM D α k mTaped mErr mPpl mBts mUs mRa mSt mKi mWd mVal mLet mFin mNp mNb mOuts mWant mFnd mTape mNum mNam mFst mBnm (f_X12_isLaidNoMore (f_X12_sets (f_X12_sets mW p 4 0) p 5 1) p) mUn mSl mKp mnNum mnNam mnBo mnBn) := hQ.1
      have hf : (f_X12_isBackFromVote mW p) = (f_X12_isLaidNoMore (f_X12_sets (f_X12_sets mW p 4 0) p 5 1) p) := (cd_t c1).trans (if_pos c2)
      exact g_vret S hr hlk hP hD hS (rfl) (⟨by rw [hf]; exact hB0, hF⟩) dX12_isBackFromVote_41
    · refine lv_iconst (v := 0) S.1 S.2.1 dX12_isBackFromVote_28 (by decide) ?_
      refine lv_goto (tgt := 33) S.1 S.2.1 dX12_isBackFromVote_29 (by decide) ?_
      refine g_aft0 (st1 := []) (g_V (As := [.int p, .int 5, .int 0]) (rest := []) S mi_X12_sets qw1362 (c_X12_sets l D A w1 α (k) mTaped mErr mPpl mBts mUs mRa mSt mKi mWd mVal mLet mFin mNp mNb mOuts mWant mFnd mTape mNum mNam mFst mBnm (f_X12_sets mW p 4 0) mUn mSl mKp mnNum mnNam mnBo mnBn p 5 0 hB0 (by first | assumption | exact vin_d (by decide) | exact vp_in_nI (by omega) (by decide) | decide | omega) (by first | assumption | exact vin_d (by decide) | exact vp_in_nI (by omega) (by decide) | decide | omega)) hK hP hD hE hS (hB0 0 _ rfl) rfl rfl rfl hl.1 (Nat.le_of_ble_eq_true rfl) rfl rfl ⟨(Nat.le_of_ble_eq_true rfl), (Nat.le_of_ble_eq_true rfl)⟩ ⟨(Nat.le_of_ble_eq_true rfl), (Nat.le_of_ble_eq_true rfl)⟩ dX12_isBackFromVote_33) hS rfl (fun w4 H locs hQ hP hD hS => ?_)
      have hF := hF.trans hQ.2
      have hB0 : Blk w4 k (cM D α k mTaped mErr mPpl mBts mUs mRa mSt mKi mWd mVal mLet mFin mNp mNb mOuts mWant mFnd mTape mNum mNam mFst mBnm (f_X12_sets (f_X12_sets mW p 4 0) p 5 0) mUn mSl mKp mnNum mnNam mnBo mnBn) := hQ.1
      refine lv_aload_n S.1 S.2.1 dX12_isBackFromVote_36 rfl (lv_at hl 0 rfl) ?_
      refine lv_iload_n S.1 S.2.1 dX12_isBackFromVote_37 rfl (lv_at hl 1 rfl) ?_
      refine g_aft0 (st1 := []) (g_V (As := [.int p]) (rest := []) S mi_X12_isLaidNoMore qw1370 (c_X12_isLaidNoMore l D A w4 α (k) mTaped mErr mPpl mBts mUs mRa mSt mKi mWd mVal mLet mFin mNp mNb mOuts mWant mFnd mTape mNum mNam mFst mBnm (f_X12_sets (f_X12_sets mW p 4 0) p 5 0) mUn mSl mKp mnNum mnNam mnBo mnBn p hB0 (by first | assumption | exact vin_d (by decide) | exact vp_in_nI (by omega) (by decide) | decide | omega)) hK hP hD hE hS (hB0 0 _ rfl) rfl rfl rfl hl.1 (Nat.le_of_ble_eq_true rfl) rfl rfl ⟨(Nat.le_of_ble_eq_true rfl), (Nat.le_of_ble_eq_true rfl)⟩ ⟨(Nat.le_of_ble_eq_true rfl), (Nat.le_of_ble_eq_true rfl)⟩ dX12_isBackFromVote_38) hS rfl (fun w5 H locs hQ hP hD hS => ?_)
      have hF := hF.trans hQ.2
      have hB0 : Blk w5 k (cM D α k mTaped mErr mPpl mBts mUs mRa mSt mKi mWd mVal mLet mFin mNp mNb mOuts mWant mFnd mTape mNum mNam mFst mBnm (f_X12_isLaidNoMore (f_X12_sets (f_X12_sets mW p 4 0) p 5 0) p) mUn mSl mKp mnNum mnNam mnBo mnBn) := hQ.1
      have hf : (f_X12_isBackFromVote mW p) = (f_X12_isLaidNoMore (f_X12_sets (f_X12_sets mW p 4 0) p 5 0) p) := (cd_t c1).trans (if_neg c2)
      exact g_vret S hr hlk hP hD hS (rfl) (⟨by rw [hf]; exact hB0, hF⟩) dX12_isBackFromVote_41
