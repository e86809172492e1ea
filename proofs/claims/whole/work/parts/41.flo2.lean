def L_X12_seafaring_4 (mW : Nat → Int32) : Nat → Int32 := iter_ (fun n sn => (sn + (f_X12_of mW (nI n) 3))) 0
def f_X12_seafaring (mPpl : Int32) (mW : Nat → Int32) : UInt64 := (if (mW 0) = 0 then FP.dconst0 else (FP.ddiv (FP.i2d (L_X12_seafaring_4 mW mPpl.toNatClampNeg)) (FP.i2d ((mW 0) * mPpl))))
set_option maxHeartbeats 4000000 in
set_option maxRecDepth 100000 in
theorem c_X12_seafaring (l : Launch) (D : va_G) (A : Nat → Prop) (w : va_W) (α : Nat → Nat) (k : Nat) (mTaped : Int32) (mErr : Int32) (mPpl : Int32) (mBts : Int32) (mUs : Int32) (mRa : Int32) (mSt : Int32) (mKi : Int32) (mWd : Int64) (mVal : Int32) (mLet : Int32) (mFin : Int32) (mNp : Int32) (mNb : Int32) (mOuts : Int32) (mWant : Int32) (mFnd : Int32) (mTape : Nat → Int32) (mNum : Nat → Int32) (mNam : Nat → Int32) (mFst : Nat → Int32) (mBnm : Nat → Int32) (mW : Nat → Int32) (mUn : Nat → Int32) (mSl : Nat → Int32) (mKp : Nat → Int32) (mnNum : Nat → Int32) (mnNam : Nat → Int32) (mnBo : Nat → Int32) (mnBn : Nat → Int32) (hB0 : Blk w k (cM D α k mTaped mErr mPpl mBts mUs mRa mSt mKi mWd mVal mLet mFin mNp mNb mOuts mWant mFnd mTape mNum mNam mFst mBnm mW mUn mSl mKp mnNum mnNam mnBo mnBn)) (hy0 : vp_in mPpl 21) : MetD lw_cs l yX12_seafaring (ws_ yX12_seafaring cX12_seafaring 3 (some .double)) ({ frames := 1, cells := 0, slots := 0, locals := 22 }) (gPre D A [.ref (α (k))] w) (gD (f_X12_seafaring mPpl mW)) 0 0 A := by
  refine g_metD [(0, .ref (α (k)))] (by decide) (Nat.le_of_ble_eq_true rfl) rfl (fun pg en s mi ar below me co ls Z hEnd S hK hP hD hE hS hr hlk hnm hl => ?_)
  have hpn := vin_lt (show vp_in mPpl 21 by assumption)
  refine lv_iconst (v := 0) S.1 S.2.1 dX12_seafaring_0 (by decide) ?_
  refine lv_istore_n (lv' := [(1, .int 0), (0, .ref (α (k)))]) S.1 S.2.1 dX12_seafaring_1 rfl hl (by decide) rfl (fun ls hl => ?_)
  refine lv_iconst (v := 0) S.1 S.2.1 dX12_seafaring_2 (by decide) ?_
  refine lv_istore_n (lv' := [(2, .int 0), (1, .int 0), (0, .ref (α (k)))]) S.1 S.2.1 dX12_seafaring_3 rfl hl (by decide) rfl (fun ls hl => ?_)
  have lp4 : ∀ (j n : Nat), n + j = mPpl.toNatClampNeg → ∀ (locs : List Loc) (ls : Array Slot), va_S A s.heap s.heap locs → lv_has ls 3 [(2, .int (nI n)), (1, .int (L_X12_seafaring_4 mW n)), (0, .ref (α (k)))] → W pg l en ({ frames := 1, cells := 0, slots := 0, locals := 22 } : Room) s mi ar below me co s.heap locs 0 0 Z (F0 mi 4 ls []) := by
    intro j
    induction j with
    | zero =>
      intro n hn locs ls hS hl
      have hn : mPpl.toNatClampNeg = n := hn.symm
      subst hn
      refine lv_iload_n S.1 S.2.1 dX12_seafaring_4 rfl (lv_at hl 0 rfl) ?_
      refine lv_aload_n S.1 S.2.1 dX12_seafaring_5 rfl (lv_at hl 2 rfl) ?_
      refine g_get (v := .int mPpl) S hK hP (hB0 0 _ rfl) rfl inX12 4 (by decide) qw1378 rfl dX12_seafaring_6 ?_
      refine lv_icmp_ge (tgt := 27) S.1 S.2.1 dX12_seafaring_9 (by decide) (fun (c1 : mPpl ≤ (nI mPpl.toNatClampNeg)) => ?_) (fun (c1 : ¬ mPpl ≤ (nI mPpl.toNatClampNeg)) => absurd c1 (lp_out (s := 0) ((Nat.max_eq_left (Nat.zero_le _)).symm)))
      refine lv_aload_n S.1 S.2.1 dX12_seafaring_27 rfl (lv_at hl 2 rfl) ?_
      refine g_get (v := .ref (α (k + 6))) S hK hP (hB0 0 _ rfl) rfl inX12 9 (by decide) qw1383 rfl dX12_seafaring_28 ?_
      refine lv_iconst (v := 0) S.1 S.2.1 dX12_seafaring_31 (by decide) ?_
      refine g_iald S hK hP (hB0 6 _ rfl) (by first | assumption | exact vin_d (by decide) | exact vp_in_nI (by omega) (by decide) | decide) dX12_seafaring_32 ?_
      refine lv_if_ne (tgt := 40) S.1 S.2.1 dX12_seafaring_33 (by decide) (fun (c2 : ¬ (mW 0) = 0) => ?_) (fun (c2 : (mW 0) = 0) => ?_)
      · refine lv_iload_n S.1 S.2.1 dX12_seafaring_40 rfl (lv_at hl 1 rfl) ?_
        refine lv_i2d S.1 S.2.1 dX12_seafaring_41 ?_
        refine lv_aload_n S.1 S.2.1 dX12_seafaring_42 rfl (lv_at hl 2 rfl) ?_
        refine g_get (v := .ref (α (k + 6))) S hK hP (hB0 0 _ rfl) rfl inX12 9 (by decide) qw1383 rfl dX12_seafaring_43 ?_
        refine lv_iconst (v := 0) S.1 S.2.1 dX12_seafaring_46 (by decide) ?_
        refine g_iald S hK hP (hB0 6 _ rfl) (by first | assumption | exact vin_d (by decide) | exact vp_in_nI (by omega) (by decide) | decide) dX12_seafaring_47 ?_
        refine lv_aload_n S.1 S.2.1 dX12_seafaring_48 rfl (lv_at hl 2 rfl) ?_
        refine g_get (v := .int mPpl) S hK hP (hB0 0 _ rfl) rfl inX12 4 (by decide) qw1378 rfl dX12_seafaring_49 ?_
        refine lv_imul S.1 S.2.1 dX12_seafaring_52 ?_
        refine lv_i2d S.1 S.2.1 dX12_seafaring_53 ?_
        refine W.base (lv_ddiv_any (Drawn.sameBut.refl s.drawn lw_cs) lw_bits S.1 S.2.1 dX12_seafaring_54 (fun r d1 hal hd1 => ?_))
        have hf : (f_X12_seafaring mPpl mW) = (FP.ddiv (FP.i2d (L_X12_seafaring_4 mW mPpl.toNatClampNeg)) (FP.i2d ((mW 0) * mPpl))) := if_neg c2
        exact hEnd d1 _ _ _ _ _ hd1 (g_dretD S.1 S.2.1 hr hlk hS (by rw [hf]; exact hal) dX12_seafaring_55)
      · refine lv_dconst0 S.1 S.2.1 dX12_seafaring_36 ?_
        refine lv_goto (tgt := 55) S.1 S.2.1 dX12_seafaring_37 (by decide) ?_
        have hf : (f_X12_seafaring mPpl mW) = FP.dconst0 := if_pos c2
        exact W.base (hEnd s.drawn _ _ _ _ _ (Drawn.sameBut.refl s.drawn lw_cs) (g_dretD S.1 S.2.1 hr hlk hS (by rw [hf]; exact alike64_refl _) dX12_seafaring_55))
    | succ j ih =>
      intro n hn locs ls hS hl
      refine lv_iload_n S.1 S.2.1 dX12_seafaring_4 rfl (lv_at hl 0 rfl) ?_
      refine lv_aload_n S.1 S.2.1 dX12_seafaring_5 rfl (lv_at hl 2 rfl) ?_
      refine g_get (v := .int mPpl) S hK hP (hB0 0 _ rfl) rfl inX12 4 (by decide) qw1378 rfl dX12_seafaring_6 ?_
      refine lv_icmp_ge (tgt := 27) S.1 S.2.1 dX12_seafaring_9 (by decide) (fun (c3 : mPpl ≤ (nI n)) => absurd c3 (lp_in (s := 0) (rfl) hn)) (fun (c3 : ¬ mPpl ≤ (nI n)) => ?_)
      refine lv_iload_n S.1 S.2.1 dX12_seafaring_12 rfl (lv_at hl 1 rfl) ?_
      refine lv_aload_n S.1 S.2.1 dX12_seafaring_13 rfl (lv_at hl 2 rfl) ?_
      refine lv_iload_n S.1 S.2.1 dX12_seafaring_14 rfl (lv_at hl 0 rfl) ?_
      refine lv_iconst (v := 3) S.1 S.2.1 dX12_seafaring_15 (by decide) ?_
      refine g_aftR0 (st1 := [.int (f_X12_of mW (nI n) 3), .int (L_X12_seafaring_4 mW n)]) (g_V (As := [.int (nI n), .int 3]) (rest := [.int (L_X12_seafaring_4 mW n)]) S mi_X12_of qw1579 (c_X12_of l D A w α (k) mTaped mErr mPpl mBts mUs mRa mSt mKi mWd mVal mLet mFin mNp mNb mOuts mWant mFnd mTape mNum mNam mFst mBnm mW mUn mSl mKp mnNum mnNam mnBo mnBn (nI n) 3 hB0 (by first | assumption | exact vin_d (by decide) | exact vp_in_nI (by omega) (by decide) | decide | omega) (by first | assumption | exact vin_d (by decide) | exact vp_in_nI (by omega) (by decide) | decide | omega)) hK hP hD hE hS (hB0 0 _ rfl) rfl rfl rfl hl.1 (Nat.le_of_ble_eq_true rfl) rfl rfl ⟨(Nat.le_of_ble_eq_true rfl), (Nat.le_of_ble_eq_true rfl)⟩ ⟨(Nat.le_of_ble_eq_true rfl), (Nat.le_of_ble_eq_true rfl)⟩ dX12_seafaring_16) hS rfl (fun locs hS => ?_)
      refine lv_iadd S.1 S.2.1 dX12_seafaring_19 ?_
      refine lv_istore_n (lv' := [(1, .int ((L_X12_seafaring_4 mW n) + (f_X12_of mW (nI n) 3))), (2, .int (nI n)), (0, .ref (α (k)))]) S.1 S.2.1 dX12_seafaring_20 rfl hl (by decide) rfl (fun ls hl => ?_)
      refine lv_iinc (v := (nI (n + 1))) (lv' := [(2, .int (nI (n + 1))), (1, .int ((L_X12_seafaring_4 mW n) + (f_X12_of mW (nI n) 3))), (0, .ref (α (k)))]) S.1 S.2.1 dX12_seafaring_21 hl (k := 1) rfl ((nI_succ n).symm) (by decide) rfl (fun ls hl => ?_)
      refine lv_goto (tgt := 4) S.1 S.2.1 dX12_seafaring_24 (by decide) ?_
      have hL : (L_X12_seafaring_4 mW (n + 1)) = ((L_X12_seafaring_4 mW n) + (f_X12_of mW (nI n) 3)) := (iter_s _ _ _).trans (rfl)
      refine ih (n + 1) (by omega) _ _ hS ?_
      rw [hL]; exact lv_sub hl [0, 1, 2] rfl
  have hL0 : (L_X12_seafaring_4 mW 0) = 0 := iter_z _ _
  exact lp4 mPpl.toNatClampNeg 0 (Nat.zero_add _) _ _ hS (by rw [hL0]; exact lv_sub hl [0, 1, 2] rfl)
