noncomputable def G_X12_clear_2 (mW : Nat → Int32) (n : Nat) (sn : (Nat → Int32)) : (Nat → Int32) := (upd sn (nI n).toNatClampNeg 0)
noncomputable def L_X12_clear_2 (mW : Nat → Int32) : Nat → (Nat → Int32) := iter_ (G_X12_clear_2 mW) mW
noncomputable def S_X12_clear_41 (mFst : Nat → Int32) (mW : Nat → Int32) (n : Nat) (sn : (Nat → Int32)) : (Nat → Int32) := (f_X12_sets sn (nI n) 0 (mFst (nI n).toNatClampNeg))
noncomputable def S_X12_clear_49 (mFst : Nat → Int32) (mW : Nat → Int32) (n : Nat) (sn : (Nat → Int32)) : (Nat → Int32) := (f_X12_sets (S_X12_clear_41 mFst mW n sn) (nI n) 1 (-2))
noncomputable def S_X12_clear_54 (mFst : Nat → Int32) (mW : Nat → Int32) (n : Nat) (sn : (Nat → Int32)) : (Nat → Int32) := (f_X12_atHand (S_X12_clear_49 mFst mW n sn) (nI n))
noncomputable def G_X12_clear_24 (mFst : Nat → Int32) (mW : Nat → Int32) (n : Nat) (sn : (Nat → Int32)) : (Nat → Int32) := (S_X12_clear_54 mFst mW n sn)
noncomputable def L_X12_clear_24 (mFst : Nat → Int32) (mW : Nat → Int32) : Nat → (Nat → Int32) := iter_ (G_X12_clear_24 mFst mW) (L_X12_clear_2 mW 399)
noncomputable def f_X12_clear (mPpl : Int32) (mFst : Nat → Int32) (mW : Nat → Int32) (mKp : Nat → Int32) : (Nat → Int32) × Int32 × (Nat → Int32) := ((upd (upd mKp 0 (vp_nar .boolean 0)) 1 (vp_nar .boolean 0)), 0, (L_X12_clear_24 mFst mW mPpl.toNatClampNeg))
set_option maxHeartbeats 4000000 in
set_option maxRecDepth 100000 in
theorem c_X12_clear (l : Launch) (D : va_G) (A : Nat → Prop) (w : va_W) (α : Nat → Nat) (k : Nat) (mTaped : Int32) (mErr : Int32) (mPpl : Int32) (mBts : Int32) (mUs : Int32) (mRa : Int32) (mSt : Int32) (mKi : Int32) (mWd : Int64) (mVal : Int32) (mLet : Int32) (mFin : Int32) (mNp : Int32) (mNb : Int32) (mOuts : Int32) (mWant : Int32) (mFnd : Int32) (mTape : Nat → Int32) (mNum : Nat → Int32) (mNam : Nat → Int32) (mFst : Nat → Int32) (mBnm : Nat → Int32) (mW : Nat → Int32) (mUn : Nat → Int32) (mSl : Nat → Int32) (mKp : Nat → Int32) (mnNum : Nat → Int32) (mnNam : Nat → Int32) (mnBo : Nat → Int32) (mnBn : Nat → Int32) (hB0 : Blk w k (cM D α k mTaped mErr mPpl mBts mUs mRa mSt mKi mWd mVal mLet mFin mNp mNb mOuts mWant mFnd mTape mNum mNam mFst mBnm mW mUn mSl mKp mnNum mnNam mnBo mnBn)) (hy0 : vp_in mPpl 21) : Met l yX12_clear (ws_ yX12_clear cX12_clear 2 none) ({ frames := 3, cells := 0, slots := 0, locals := 65 }) (gPre D A [.ref (α (k))] w) (gQ D A none (fun w1 => Blk w1 k (cM D α k mTaped mErr mPpl mBts ((f_X12_clear mPpl mFst mW mKp).2.1) mRa mSt mKi mWd mVal mLet mFin mNp mNb mOuts mWant mFnd mTape mNum mNam mFst mBnm ((f_X12_clear mPpl mFst mW mKp).2.2) mUn mSl ((f_X12_clear mPpl mFst mW mKp).1) mnNum mnNam mnBo mnBn) ∧ Same w w1 k 14)) 0 0 A := by
  refine g_met [(0, .ref (α (k)))] (plainFor_of_name (by decide)) (Nat.le_of_ble_eq_true rfl) rfl (fun pg en s mi ar below me co ls S hK hP hD hE hS hr hlk hnm hl => ?_)
  have hF : Same w w k 14 := Same.rf
  have hpn := vin_lt (show vp_in mPpl 21 by assumption)
  refine lv_iconst (v := 0) S.1 S.2.1 dX12_clear_0 (by decide) ?_
  refine lv_istore_n (lv' := [(1, .int 0), (0, .ref (α (k)))]) S.1 S.2.1 dX12_clear_1 rfl hl (by decide) rfl (fun ls hl => ?_)
  have lp2 : ∀ (j n : Nat), n + j = 399 → ∀ (wl : va_W) (H : Heap) (locs : List Loc) (ls : Array Slot), va_P D vwCl wl H → va_D A wl → va_S A s.heap H locs → Same w wl k 14 → Blk wl k (cM D α k mTaped mErr mPpl mBts mUs mRa mSt mKi mWd mVal mLet mFin mNp mNb mOuts mWant mFnd mTape mNum mNam mFst mBnm (L_X12_clear_2 mW n) mUn mSl mKp mnNum mnNam mnBo mnBn) → lv_has ls 2 [(1, .int (nI n)), (0, .ref (α (k)))] → W pg l en ({ frames := 3, cells := 0, slots := 0, locals := 65 } : Room) s mi ar below me co H locs 0 0 (MQ below (gQ D A none (fun w1 => Blk w1 k (cM D α k mTaped mErr mPpl mBts ((f_X12_clear mPpl mFst mW mKp).2.1) mRa mSt mKi mWd mVal mLet mFin mNp mNb mOuts mWant mFnd mTape mNum mNam mFst mBnm ((f_X12_clear mPpl mFst mW mKp).2.2) mUn mSl ((f_X12_clear mPpl mFst mW mKp).1) mnNum mnNam mnBo mnBn) ∧ Same w w1 k 14)) ar s 0 0 A) (F0 mi 2 ls []) := by
    intro j
    induction j with
    | zero =>
      intro n hn wl H locs ls hP hD hS hF hB0 hl
      have hn : 399 = n := hn.symm
      subst hn
      refine lv_iload_n S.1 S.2.1 dX12_clear_2 rfl (lv_at hl 0 rfl) ?_
      refine lv_sipush (v := 399) S.1 S.2.1 dX12_clear_3 (by decide) ?_
      refine lv_icmp_ge (tgt := 22) S.1 S.2.1 dX12_clear_6 (by decide) (fun (c1 : 399 ≤ (nI 399)) => ?_) (fun (c1 : ¬ 399 ≤ (nI 399)) => absurd c1 (lp_out (s := 0) (by decide)))
      refine lv_iconst (v := 0) S.1 S.2.1 dX12_clear_22 (by decide) ?_
      refine lv_istore_n (lv' := [(1, .int 0), (0, .ref (α (k)))]) S.1 S.2.1 dX12_clear_23 rfl hl (by decide) rfl (fun ls hl => ?_)
      have lp24 : ∀ (j n : Nat), n + j = mPpl.toNatClampNeg → ∀ (wl : va_W) (H : Heap) (locs : List Loc) (ls : Array Slot), va_P D vwCl wl H → va_D A wl → va_S A s.heap H locs → Same w wl k 14 → Blk wl k (cM D α k mTaped mErr mPpl mBts mUs mRa mSt mKi mWd mVal mLet mFin mNp mNb mOuts mWant mFnd mTape mNum mNam mFst mBnm (L_X12_clear_24 mFst mW n) mUn mSl mKp mnNum mnNam mnBo mnBn) → lv_has ls 2 [(1, .int (nI n)), (0, .ref (α (k)))] → W pg l en ({ frames := 3, cells := 0, slots := 0, locals := 65 } : Room) s mi ar below me co H locs 0 0 (MQ below (gQ D A none (fun w1 => Blk w1 k (cM D α k mTaped mErr mPpl mBts ((f_X12_clear mPpl mFst mW mKp).2.1) mRa mSt mKi mWd mVal mLet mFin mNp mNb mOuts mWant mFnd mTape mNum mNam mFst mBnm ((f_X12_clear mPpl mFst mW mKp).2.2) mUn mSl ((f_X12_clear mPpl mFst mW mKp).1) mnNum mnNam mnBo mnBn) ∧ Same w w1 k 14)) ar s 0 0 A) (F0 mi 24 ls []) := by
        intro j
        induction j with
        | zero =>
          intro n hn wl H locs ls hP hD hS hF hB0 hl
          have hn : mPpl.toNatClampNeg = n := hn.symm
          subst hn
          refine lv_iload_n S.1 S.2.1 dX12_clear_24 rfl (lv_at hl 0 rfl) ?_
          refine lv_aload_n S.1 S.2.1 dX12_clear_25 rfl (lv_at hl 1 rfl) ?_
          refine g_get (v := .int mPpl) S hK hP (hB0 0 _ rfl) rfl inX12 4 (by decide) qw1378 rfl dX12_clear_26 ?_
          refine lv_icmp_ge (tgt := 63) S.1 S.2.1 dX12_clear_29 (by decide) (fun (c2 : mPpl ≤ (nI mPpl.toNatClampNeg)) => ?_) (fun (c2 : ¬ mPpl ≤ (nI mPpl.toNatClampNeg)) => absurd c2 (lp_out0 (rfl)))
          refine lv_aload_n S.1 S.2.1 dX12_clear_63 rfl (lv_at hl 1 rfl) ?_
          refine g_get (v := .ref (α (k + 9))) S hK hP (hB0 0 _ rfl) rfl inX12 12 (by decide) qw1386 rfl dX12_clear_64 ?_
          refine lv_iconst (v := 0) S.1 S.2.1 dX12_clear_67 (by decide) ?_
          refine lv_iconst (v := 0) S.1 S.2.1 dX12_clear_68 (by decide) ?_
          refine g_zast S hK hP hD hS (hB0 9 _ rfl) (by first | assumption | exact vin_d (by decide) | exact vp_in_nI (by omega) (by decide) | decide) dX12_clear_69 (fun w1 H locs hw hP hD hS => ?_)
          have hF := Same.set hF 9 hw (by decide)
          have hB0 : Blk w1 k (cM D α k mTaped mErr mPpl mBts mUs mRa mSt mKi mWd mVal mLet mFin mNp mNb mOuts mWant mFnd mTape mNum mNam mFst mBnm (L_X12_clear_24 mFst mW mPpl.toNatClampNeg) mUn mSl (upd mKp 0 (vp_nar .boolean 0)) mnNum mnNam mnBo mnBn) := hB0.set 9 hw (Nat.le_of_ble_eq_true rfl) rfl
          refine lv_aload_n S.1 S.2.1 dX12_clear_70 rfl (lv_at hl 1 rfl) ?_
          refine g_get (v := .ref (α (k + 9))) S hK hP (hB0 0 _ rfl) rfl inX12 12 (by decide) qw1386 rfl dX12_clear_71 ?_
          refine lv_iconst (v := 1) S.1 S.2.1 dX12_clear_74 (by decide) ?_
          refine lv_iconst (v := 0) S.1 S.2.1 dX12_clear_75 (by decide) ?_
          refine g_zast S hK hP hD hS (hB0 9 _ rfl) (by first | assumption | exact vin_d (by decide) | exact vp_in_nI (by omega) (by decide) | decide) dX12_clear_76 (fun w2 H locs hw hP hD hS => ?_)
          have hF := Same.set hF 9 hw (by decide)
          have hB0 : Blk w2 k (cM D α k mTaped mErr mPpl mBts mUs mRa mSt mKi mWd mVal mLet mFin mNp mNb mOuts mWant mFnd mTape mNum mNam mFst mBnm (L_X12_clear_24 mFst mW mPpl.toNatClampNeg) mUn mSl (upd (upd mKp 0 (vp_nar .boolean 0)) 1 (vp_nar .boolean 0)) mnNum mnNam mnBo mnBn) := hB0.set 9 hw (Nat.le_of_ble_eq_true rfl) rfl
          refine lv_aload_n S.1 S.2.1 dX12_clear_77 rfl (lv_at hl 1 rfl) ?_
          refine lv_iconst (v := 0) S.1 S.2.1 dX12_clear_78 (by decide) ?_
          refine g_put S hK hP hD hS (hB0 0 _ rfl) rfl inX12 tyX12_ok nmX12 13 (by decide) qw1387 rfl rfl rfl (Nat.le_of_ble_eq_true rfl) dX12_clear_79 (fun w3 H locs hw hP hD hS => ?_)
          have hF := Same.set hF 0 hw (by decide)
          have hB0 : Blk w3 k (cM D α k mTaped mErr mPpl mBts 0 mRa mSt mKi mWd mVal mLet mFin mNp mNb mOuts mWant mFnd mTape mNum mNam mFst mBnm (L_X12_clear_24 mFst mW mPpl.toNatClampNeg) mUn mSl (upd (upd mKp 0 (vp_nar .boolean 0)) 1 (vp_nar .boolean 0)) mnNum mnNam mnBo mnBn) := hB0.set 0 hw (Nat.le_of_ble_eq_true rfl) rfl
          have hf : (f_X12_clear mPpl mFst mW mKp) = ((upd (upd mKp 0 (vp_nar .boolean 0)) 1 (vp_nar .boolean 0)), 0, (L_X12_clear_24 mFst mW mPpl.toNatClampNeg)) := rfl
          exact g_vret S hr hlk hP hD hS (rfl) (⟨by rw [hf]; dsimp only; exact hB0, hF⟩) dX12_clear_82
        | succ j ih =>
          intro n hn wl H locs ls hP hD hS hF hB0 hl
          refine lv_iload_n S.1 S.2.1 dX12_clear_24 rfl (lv_at hl 0 rfl) ?_
          refine lv_aload_n S.1 S.2.1 dX12_clear_25 rfl (lv_at hl 1 rfl) ?_
          refine g_get (v := .int mPpl) S hK hP (hB0 0 _ rfl) rfl inX12 4 (by decide) qw1378 rfl dX12_clear_26 ?_
          refine lv_icmp_ge (tgt := 63) S.1 S.2.1 dX12_clear_29 (by decide) (fun (c3 : mPpl ≤ (nI n)) => absurd c3 (lp_in0 (rfl) hn)) (fun (c3 : ¬ mPpl ≤ (nI n)) => ?_)
          refine lv_aload_n S.1 S.2.1 dX12_clear_32 rfl (lv_at hl 1 rfl) ?_
          refine lv_iload_n S.1 S.2.1 dX12_clear_33 rfl (lv_at hl 0 rfl) ?_
          refine lv_iconst (v := 0) S.1 S.2.1 dX12_clear_34 (by decide) ?_
          refine lv_aload_n S.1 S.2.1 dX12_clear_35 rfl (lv_at hl 1 rfl) ?_
          refine g_get (v := .ref (α (k + 4))) S hK hP (hB0 0 _ rfl) rfl inX12 7 (by decide) qw1381 rfl dX12_clear_36 ?_
          refine lv_iload_n S.1 S.2.1 dX12_clear_39 rfl (lv_at hl 0 rfl) ?_
          refine g_iald S hK hP (hB0 4 _ rfl) (by first | assumption | exact vin_d (by decide) | exact vp_in_nI (by omega) (by decide) | decide) dX12_clear_40 ?_
          have hNm : (f_X12_sets (L_X12_clear_24 mFst mW n) (nI n) 0 (mFst (nI n).toNatClampNeg)) = (S_X12_clear_41 mFst mW n (L_X12_clear_24 mFst mW n)) := rfl
          have hCon := (c_X12_sets l D A wl α (k) mTaped mErr mPpl mBts mUs mRa mSt mKi mWd mVal mLet mFin mNp mNb mOuts mWant mFnd mTape mNum mNam mFst mBnm (L_X12_clear_24 mFst mW n) mUn mSl mKp mnNum mnNam mnBo mnBn (nI n) 0 (mFst (nI n).toNatClampNeg) hB0 (by first | assumption | exact vin_d (by decide) | exact vp_in_nI (by omega) (by decide) | decide | omega) (by first | assumption | exact vin_d (by decide) | exact vp_in_nI (by omega) (by decide) | decide | omega))
          rw [hNm] at hCon
          refine g_aft0 (st1 := []) (g_V (As := [.int (nI n), .int 0, .int (mFst (nI n).toNatClampNeg)]) (rest := []) S mi_X12_sets qw1362 hCon hK hP hD hE hS (hB0 0 _ rfl) rfl rfl rfl hl.1 (Nat.le_of_ble_eq_true rfl) rfl rfl ⟨(Nat.le_of_ble_eq_true rfl), (Nat.le_of_ble_eq_true rfl)⟩ ⟨(Nat.le_of_ble_eq_true rfl), (Nat.le_of_ble_eq_true rfl)⟩ dX12_clear_41) hS rfl (fun w4 H locs hQ hP hD hS => ?_)
          have hF := hF.trans hQ.2
          have hB0 : Blk w4 k (cM D α k mTaped mErr mPpl mBts mUs mRa mSt mKi mWd mVal mLet mFin mNp mNb mOuts mWant mFnd mTape mNum mNam mFst mBnm (S_X12_clear_41 mFst mW n (L_X12_clear_24 mFst mW n)) mUn mSl mKp mnNum mnNam mnBo mnBn) := hQ.1
          refine lv_aload_n S.1 S.2.1 dX12_clear_44 rfl (lv_at hl 1 rfl) ?_
          refine lv_iload_n S.1 S.2.1 dX12_clear_45 rfl (lv_at hl 0 rfl) ?_
          refine lv_iconst (v := 1) S.1 S.2.1 dX12_clear_46 (by decide) ?_
          refine lv_bipush (v := (-2)) S.1 S.2.1 dX12_clear_47 (by decide) ?_
          have hNm : (f_X12_sets (S_X12_clear_41 mFst mW n (L_X12_clear_24 mFst mW n)) (nI n) 1 (-2)) = (S_X12_clear_49 mFst mW n (L_X12_clear_24 mFst mW n)) := rfl
          have hCon := (c_X12_sets l D A w4 α (k) mTaped mErr mPpl mBts mUs mRa mSt mKi mWd mVal mLet mFin mNp mNb mOuts mWant mFnd mTape mNum mNam mFst mBnm (S_X12_clear_41 mFst mW n (L_X12_clear_24 mFst mW n)) mUn mSl mKp mnNum mnNam mnBo mnBn (nI n) 1 (-2) hB0 (by first | assumption | exact vin_d (by decide) | exact vp_in_nI (by omega) (by decide) | decide | omega) (by first | assumption | exact vin_d (by decide) | exact vp_in_nI (by omega) (by decide) | decide | omega))
          rw [hNm] at hCon
          refine g_aft0 (st1 := []) (g_V (As := [.int (nI n), .int 1, .int (-2)]) (rest := []) S mi_X12_sets qw1362 hCon hK hP hD hE hS (hB0 0 _ rfl) rfl rfl rfl hl.1 (Nat.le_of_ble_eq_true rfl) rfl rfl ⟨(Nat.le_of_ble_eq_true rfl), (Nat.le_of_ble_eq_true rfl)⟩ ⟨(Nat.le_of_ble_eq_true rfl), (Nat.le_of_ble_eq_true rfl)⟩ dX12_clear_49) hS rfl (fun w5 H locs hQ hP hD hS => ?_)
          have hF := hF.trans hQ.2
          have hB0 : Blk w5 k (cM D α k mTaped mErr mPpl mBts mUs mRa mSt mKi mWd mVal mLet mFin mNp mNb mOuts mWant mFnd mTape mNum mNam mFst mBnm (S_X12_clear_49 mFst mW n (L_X12_clear_24 mFst mW n)) mUn mSl mKp mnNum mnNam mnBo mnBn) := hQ.1
          refine lv_aload_n S.1 S.2.1 dX12_clear_52 rfl (lv_at hl 1 rfl) ?_
          refine lv_iload_n S.1 S.2.1 dX12_clear_53 rfl (lv_at hl 0 rfl) ?_
          have hNm : (f_X12_atHand (S_X12_clear_49 mFst mW n (L_X12_clear_24 mFst mW n)) (nI n)) = (S_X12_clear_54 mFst mW n (L_X12_clear_24 mFst mW n)) := rfl
          have hCon := (c_X12_atHand l D A w5 α (k) mTaped mErr mPpl mBts mUs mRa mSt mKi mWd mVal mLet mFin mNp mNb mOuts mWant mFnd mTape mNum mNam mFst mBnm (S_X12_clear_49 mFst mW n (L_X12_clear_24 mFst mW n)) mUn mSl mKp mnNum mnNam mnBo mnBn (nI n) hB0 (by first | assumption | exact vin_d (by decide) | exact vp_in_nI (by omega) (by decide) | decide | omega))
          rw [hNm] at hCon
          refine g_aft0 (st1 := []) (g_V (As := [.int (nI n)]) (rest := []) S mi_X12_atHand qw1366 hCon hK hP hD hE hS (hB0 0 _ rfl) rfl rfl rfl hl.1 (Nat.le_of_ble_eq_true rfl) rfl rfl ⟨(Nat.le_of_ble_eq_true rfl), (Nat.le_of_ble_eq_true rfl)⟩ ⟨(Nat.le_of_ble_eq_true rfl), (Nat.le_of_ble_eq_true rfl)⟩ dX12_clear_54) hS rfl (fun w6 H locs hQ hP hD hS => ?_)
          have hF := hF.trans hQ.2
          have hB0 : Blk w6 k (cM D α k mTaped mErr mPpl mBts mUs mRa mSt mKi mWd mVal mLet mFin mNp mNb mOuts mWant mFnd mTape mNum mNam mFst mBnm (S_X12_clear_54 mFst mW n (L_X12_clear_24 mFst mW n)) mUn mSl mKp mnNum mnNam mnBo mnBn) := hQ.1
          refine lv_iinc (v := (nI (n + 1))) (lv' := [(1, .int (nI (n + 1))), (0, .ref (α (k)))]) S.1 S.2.1 dX12_clear_57 hl (k := 0) rfl ((nI_succ n).symm) (by decide) rfl (fun ls hl => ?_)
          refine lv_goto (tgt := 24) S.1 S.2.1 dX12_clear_60 (by decide) ?_
          have hL : (L_X12_clear_24 mFst mW (n + 1)) = (S_X12_clear_54 mFst mW n (L_X12_clear_24 mFst mW n)) := (iter_s _ _ _).trans (show (G_X12_clear_24 mFst mW n (L_X12_clear_24 mFst mW n)) = (S_X12_clear_54 mFst mW n (L_X12_clear_24 mFst mW n)) from rfl)
          refine ih (n + 1) (lp_n hn) _ _ _ _ hP hD hS hF ?_ ?_
          · rw [hL]; exact hB0
          · exact lv_sub hl [0, 1] rfl
      have hL0 : (L_X12_clear_24 mFst mW 0) = (L_X12_clear_2 mW 399) := iter_z _ _
      exact lp24 mPpl.toNatClampNeg 0 (Nat.zero_add mPpl.toNatClampNeg) _ _ _ _ hP hD hS hF (by rw [hL0]; exact hB0) (lv_sub hl [0, 1] rfl)
    | succ j ih =>
      intro n hn wl H locs ls hP hD hS hF hB0 hl
      refine lv_iload_n S.1 S.2.1 dX12_clear_2 rfl (lv_at hl 0 rfl) ?_
      refine lv_sipush (v := 399) S.1 S.2.1 dX12_clear_3 (by decide) ?_
      refine lv_icmp_ge (tgt := 22) S.1 S.2.1 dX12_clear_6 (by decide) (fun (c4 : 399 ≤ (nI n)) => absurd c4 (lp_in (s := 0) (by decide) hn)) (fun (c4 : ¬ 399 ≤ (nI n)) => ?_)
      refine lv_aload_n S.1 S.2.1 dX12_clear_9 rfl (lv_at hl 1 rfl) ?_
      refine g_get (v := .ref (α (k + 6))) S hK hP (hB0 0 _ rfl) rfl inX12 9 (by decide) qw1383 rfl dX12_clear_10 ?_
      refine lv_iload_n S.1 S.2.1 dX12_clear_13 rfl (lv_at hl 0 rfl) ?_
      refine lv_iconst (v := 0) S.1 S.2.1 dX12_clear_14 (by decide) ?_
      refine g_iast S hK hP hD hS (hB0 6 _ rfl) (by first | assumption | exact vin_d (by decide) | exact vp_in_nI (by omega) (by decide) | decide) dX12_clear_15 (fun w7 H locs hw hP hD hS => ?_)
      have hF := Same.set hF 6 hw (by decide)
      have hB0 : Blk w7 k (cM D α k mTaped mErr mPpl mBts mUs mRa mSt mKi mWd mVal mLet mFin mNp mNb mOuts mWant mFnd mTape mNum mNam mFst mBnm (upd (L_X12_clear_2 mW n) (nI n).toNatClampNeg 0) mUn mSl mKp mnNum mnNam mnBo mnBn) := hB0.set 6 hw (Nat.le_of_ble_eq_true rfl) rfl
      refine lv_iinc (v := (nI (n + 1))) (lv' := [(1, .int (nI (n + 1))), (0, .ref (α (k)))]) S.1 S.2.1 dX12_clear_16 hl (k := 0) rfl ((nI_succ n).symm) (by decide) rfl (fun ls hl => ?_)
      refine lv_goto (tgt := 2) S.1 S.2.1 dX12_clear_19 (by decide) ?_
      have hL : (L_X12_clear_2 mW (n + 1)) = (upd (L_X12_clear_2 mW n) (nI n).toNatClampNeg 0) := (iter_s _ _ _).trans (show (G_X12_clear_2 mW n (L_X12_clear_2 mW n)) = (upd (L_X12_clear_2 mW n) (nI n).toNatClampNeg 0) from rfl)
      refine ih (n + 1) (lp_n hn) _ _ _ _ hP hD hS hF ?_ ?_
      · rw [hL]; exact hB0
      · exact lv_sub hl [0, 1] rfl
  have hL0 : (L_X12_clear_2 mW 0) = mW := iter_z _ _
  exact lp2 399 0 (Nat.zero_add 399) _ _ _ _ hP hD hS hF (by rw [hL0]; exact hB0) (lv_sub hl [0, 1] rfl)
