def L_X12_passes_12 (mW : Nat → Int32) : Nat → (Nat → Int32) := iter_ (fun n sn => (bif (f_X12_isAtSea sn (nI n)) then (f_X12_sets sn (nI n) 3 ((f_X12_of sn (nI n) 3) + 1)) else (f_X12_sets sn (nI n) 3 ((f_X12_of sn (nI n) 3) + 0)))) (upd mW 0 ((mW 0) + 1))
def L_X12_passes_56 (mPpl : Int32) (mW : Nat → Int32) : Nat → Int32 × (Nat → Int32) := iter_ (fun n sn => (bif (f_X12_isOut (sn.2) (nI n)) then (if (f_X12_ofBoat (sn.2) (nI n) 1) = (sn.2 0) then ((sn.1 + (f_X12_comesHome mPpl (sn.2) (nI n)).1), (f_X12_comesHome mPpl (sn.2) (nI n)).2) else ((sn.1 + 0), sn.2)) else ((sn.1 + 0), sn.2))) (0, (L_X12_passes_12 mW mPpl.toNatClampNeg))
def f_X12_passes (mPpl : Int32) (mBts : Int32) (mW : Nat → Int32) : Int32 × (Nat → Int32) := ((L_X12_passes_56 mPpl mW mBts.toNatClampNeg).1, (L_X12_passes_56 mPpl mW mBts.toNatClampNeg).2)
theorem passes_a {mPpl : Int32} {mW : Nat → Int32} (h : vp_in mPpl 21) (hl : vp_in (mW 8) 31) : vp_in (L_X12_passes_12 mW mPpl.toNatClampNeg 8) 31 := by
  have hn := vin_lt h
  refine iter_inv (fun _ (s : Nat → Int32) => vp_in (s 8) 31) (lg_upd hl (by decide)) (fun n s hk hs => ?_) _ (Nat.le_refl _)
  show vp_in ((bif _ then _ else _ : Nat → Int32) 8) 31
  cases f_X12_isAtSea s (nI n)
  · exact lg_sets hs (vp_in_nI (by omega) (by decide)) (vin_d (by decide))
  · exact lg_sets hs (vp_in_nI (by omega) (by decide)) (vin_d (by decide))
theorem passes_b {mPpl mBts : Int32} {mW : Nat → Int32} (h : vp_in mPpl 21) (hb : vp_in mBts 7) (hl : vp_in (mW 8) 31) : ∀ n, n ≤ mBts.toNatClampNeg → vp_in ((L_X12_passes_56 mPpl mW n).2 8) 31 := by
  have hn := vin_lt hb
  refine iter_inv (fun _ (s : Int32 × (Nat → Int32)) => vp_in (s.2 8) 31) (passes_a h hl) (fun n s hk hs => ?_)
  show vp_in ((bif _ then (ite _ _ _) else _ : Int32 × (Nat → Int32)).2 8) 31
  cases f_X12_isOut s.2 (nI n)
  · exact hs
  · show vp_in ((ite _ _ _ : Int32 × (Nat → Int32)).2 8) 31
    split
    · exact comesHome_lg h (vp_in_nI (by omega) (by decide)) hs
    · exact hs
set_option maxHeartbeats 4000000 in
set_option maxRecDepth 100000 in
theorem c_X12_passes (l : Launch) (D : va_G) (A : Nat → Prop) (w : va_W) (α : Nat → Nat) (k : Nat) (mTaped : Int32) (mErr : Int32) (mPpl : Int32) (mBts : Int32) (mUs : Int32) (mRa : Int32) (mSt : Int32) (mKi : Int32) (mWd : Int64) (mVal : Int32) (mLet : Int32) (mFin : Int32) (mNp : Int32) (mNb : Int32) (mOuts : Int32) (mWant : Int32) (mFnd : Int32) (mTape : Nat → Int32) (mNum : Nat → Int32) (mNam : Nat → Int32) (mFst : Nat → Int32) (mBnm : Nat → Int32) (mW : Nat → Int32) (mUn : Nat → Int32) (mSl : Nat → Int32) (mKp : Nat → Int32) (mnNum : Nat → Int32) (mnNam : Nat → Int32) (mnBo : Nat → Int32) (mnBn : Nat → Int32) (hB0 : Blk w k (cM D α k mTaped mErr mPpl mBts mUs mRa mSt mKi mWd mVal mLet mFin mNp mNb mOuts mWant mFnd mTape mNum mNam mFst mBnm mW mUn mSl mKp mnNum mnNam mnBo mnBn)) (hy0 : vp_in mPpl 21) (hy1 : vp_in mBts 7) (hy2 : vp_in (mW 8) 31) : Met l yX12_passes (ws_ yX12_passes cX12_passes 3 (some .int)) ({ frames := 2, cells := 0, slots := 0, locals := 47 }) (gPre D A [.ref (α (k))] w) (gQ D A (some (.int (f_X12_passes mPpl mBts mW).1)) (fun w1 => Blk w1 k (cM D α k mTaped mErr mPpl mBts mUs mRa mSt mKi mWd mVal mLet mFin mNp mNb mOuts mWant mFnd mTape mNum mNam mFst mBnm ((f_X12_passes mPpl mBts mW).2) mUn mSl mKp mnNum mnNam mnBo mnBn) ∧ Same w w1 k 14)) 0 0 A := by
  refine g_met [(0, .ref (α (k)))] (plainFor_of_name (by decide)) (Nat.le_of_ble_eq_true rfl) rfl (fun pg en s mi ar below me co ls S hK hP hD hE hS hr hlk hnm hl => ?_)
  have hF : Same w w k 14 := Same.rf
  have hpn := vin_lt (show vp_in mPpl 21 by assumption)
  have hbn := vin_lt (show vp_in mBts 7 by assumption)
  refine lv_aload_n S.1 S.2.1 dX12_passes_0 rfl (lv_at hl 0 rfl) ?_
  refine g_get (v := .ref (α (k + 6))) S hK hP (hB0 0 _ rfl) rfl inX12 9 (by decide) qw1383 rfl dX12_passes_1 ?_
  refine lv_iconst (v := 0) S.1 S.2.1 dX12_passes_4 (by decide) ?_
  refine lv_dup2_11 S.1 S.2.1 dX12_passes_5 rfl rfl ?_
  refine g_iald S hK hP (hB0 6 _ rfl) (by first | assumption | exact vin_d (by decide) | exact vp_in_nI (by omega) (by decide) | decide) dX12_passes_6 ?_
  refine lv_iconst (v := 1) S.1 S.2.1 dX12_passes_7 (by decide) ?_
  refine lv_iadd S.1 S.2.1 dX12_passes_8 ?_
  refine g_iast S hK hP hD hS (hB0 6 _ rfl) (by first | assumption | exact vin_d (by decide) | exact vp_in_nI (by omega) (by decide) | decide) dX12_passes_9 (fun w1 H locs hw hP hD hS => ?_)
  have hF := Same.set hF 6 hw (by decide)
  have hB0 : Blk w1 k (cM D α k mTaped mErr mPpl mBts mUs mRa mSt mKi mWd mVal mLet mFin mNp mNb mOuts mWant mFnd mTape mNum mNam mFst mBnm (upd mW 0 ((mW 0) + 1)) mUn mSl mKp mnNum mnNam mnBo mnBn) := hB0.set 6 hw (Nat.le_of_ble_eq_true rfl) rfl
  refine lv_iconst (v := 0) S.1 S.2.1 dX12_passes_10 (by decide) ?_
  refine lv_istore_n (lv' := [(1, .int 0), (0, .ref (α (k)))]) S.1 S.2.1 dX12_passes_11 rfl hl (by decide) rfl (fun ls hl => ?_)
  have lp12 : ∀ (j n : Nat), n + j = mPpl.toNatClampNeg → ∀ (wl : va_W) (H : Heap) (locs : List Loc) (ls : Array Slot), va_P D vwCl wl H → va_D A wl → va_S A s.heap H locs → Same w wl k 14 → Blk wl k (cM D α k mTaped mErr mPpl mBts mUs mRa mSt mKi mWd mVal mLet mFin mNp mNb mOuts mWant mFnd mTape mNum mNam mFst mBnm (L_X12_passes_12 mW n) mUn mSl mKp mnNum mnNam mnBo mnBn) → lv_has ls 3 [(1, .int (nI n)), (0, .ref (α (k)))] → W pg l en ({ frames := 2, cells := 0, slots := 0, locals := 47 } : Room) s mi ar below me co H locs 0 0 (MQ below (gQ D A (some (.int (f_X12_passes mPpl mBts mW).1)) (fun w1 => Blk w1 k (cM D α k mTaped mErr mPpl mBts mUs mRa mSt mKi mWd mVal mLet mFin mNp mNb mOuts mWant mFnd mTape mNum mNam mFst mBnm ((f_X12_passes mPpl mBts mW).2) mUn mSl mKp mnNum mnNam mnBo mnBn) ∧ Same w w1 k 14)) ar s 0 0 A) (F0 mi 12 ls []) := by
    intro j
    induction j with
    | zero =>
      intro n hn wl H locs ls hP hD hS hF hB0 hl
      have hn : mPpl.toNatClampNeg = n := hn.symm
      subst hn
      refine lv_iload_n S.1 S.2.1 dX12_passes_12 rfl (lv_at hl 0 rfl) ?_
      refine lv_aload_n S.1 S.2.1 dX12_passes_13 rfl (lv_at hl 1 rfl) ?_
      refine g_get (v := .int mPpl) S hK hP (hB0 0 _ rfl) rfl inX12 4 (by decide) qw1378 rfl dX12_passes_14 ?_
      refine lv_icmp_ge (tgt := 52) S.1 S.2.1 dX12_passes_17 (by decide) (fun (c1 : mPpl ≤ (nI mPpl.toNatClampNeg)) => ?_) (fun (c1 : ¬ mPpl ≤ (nI mPpl.toNatClampNeg)) => absurd c1 (lp_out (s := 0) ((Nat.max_eq_left (Nat.zero_le _)).symm)))
      refine lv_iconst (v := 0) S.1 S.2.1 dX12_passes_52 (by decide) ?_
      refine lv_istore_n (lv' := [(1, .int 0), (0, .ref (α (k)))]) S.1 S.2.1 dX12_passes_53 rfl hl (by decide) rfl (fun ls hl => ?_)
      refine lv_iconst (v := 0) S.1 S.2.1 dX12_passes_54 (by decide) ?_
      refine lv_istore_n (lv' := [(2, .int 0), (1, .int 0), (0, .ref (α (k)))]) S.1 S.2.1 dX12_passes_55 rfl hl (by decide) rfl (fun ls hl => ?_)
      have lp56 : ∀ (j n : Nat), n + j = mBts.toNatClampNeg → ∀ (wl : va_W) (H : Heap) (locs : List Loc) (ls : Array Slot), va_P D vwCl wl H → va_D A wl → va_S A s.heap H locs → Same w wl k 14 → Blk wl k (cM D α k mTaped mErr mPpl mBts mUs mRa mSt mKi mWd mVal mLet mFin mNp mNb mOuts mWant mFnd mTape mNum mNam mFst mBnm ((L_X12_passes_56 mPpl mW n).2) mUn mSl mKp mnNum mnNam mnBo mnBn) → lv_has ls 3 [(2, .int (nI n)), (1, .int ((L_X12_passes_56 mPpl mW n).1)), (0, .ref (α (k)))] → W pg l en ({ frames := 2, cells := 0, slots := 0, locals := 47 } : Room) s mi ar below me co H locs 0 0 (MQ below (gQ D A (some (.int (f_X12_passes mPpl mBts mW).1)) (fun w1 => Blk w1 k (cM D α k mTaped mErr mPpl mBts mUs mRa mSt mKi mWd mVal mLet mFin mNp mNb mOuts mWant mFnd mTape mNum mNam mFst mBnm ((f_X12_passes mPpl mBts mW).2) mUn mSl mKp mnNum mnNam mnBo mnBn) ∧ Same w w1 k 14)) ar s 0 0 A) (F0 mi 56 ls []) := by
        intro j
        induction j with
        | zero =>
          intro n hn wl H locs ls hP hD hS hF hB0 hl
          have hn : mBts.toNatClampNeg = n := hn.symm
          subst hn
          refine lv_iload_n S.1 S.2.1 dX12_passes_56 rfl (lv_at hl 0 rfl) ?_
          refine lv_aload_n S.1 S.2.1 dX12_passes_57 rfl (lv_at hl 2 rfl) ?_
          refine g_get (v := .int mBts) S hK hP (hB0 0 _ rfl) rfl inX12 5 (by decide) qw1379 rfl dX12_passes_58 ?_
          refine lv_icmp_ge (tgt := 105) S.1 S.2.1 dX12_passes_61 (by decide) (fun (c2 : mBts ≤ (nI mBts.toNatClampNeg)) => ?_) (fun (c2 : ¬ mBts ≤ (nI mBts.toNatClampNeg)) => absurd c2 (lp_out (s := 0) ((Nat.max_eq_left (Nat.zero_le _)).symm)))
          refine lv_iload_n S.1 S.2.1 dX12_passes_105 rfl (lv_at hl 1 rfl) ?_
          have hf : (f_X12_passes mPpl mBts mW) = ((L_X12_passes_56 mPpl mW mBts.toNatClampNeg).1, (L_X12_passes_56 mPpl mW mBts.toNatClampNeg).2) := rfl
          exact g_iret S hr hlk hP hD hS (by rw [hf] <;> rfl) (⟨by rw [hf]; exact hB0, hF⟩) dX12_passes_106
        | succ j ih =>
          intro n hn wl H locs ls hP hD hS hF hB0 hl
          refine lv_iload_n S.1 S.2.1 dX12_passes_56 rfl (lv_at hl 0 rfl) ?_
          refine lv_aload_n S.1 S.2.1 dX12_passes_57 rfl (lv_at hl 2 rfl) ?_
          refine g_get (v := .int mBts) S hK hP (hB0 0 _ rfl) rfl inX12 5 (by decide) qw1379 rfl dX12_passes_58 ?_
          refine lv_icmp_ge (tgt := 105) S.1 S.2.1 dX12_passes_61 (by decide) (fun (c3 : mBts ≤ (nI n)) => absurd c3 (lp_in (s := 0) (rfl) hn)) (fun (c3 : ¬ mBts ≤ (nI n)) => ?_)
          refine lv_iload_n S.1 S.2.1 dX12_passes_64 rfl (lv_at hl 1 rfl) ?_
          refine lv_aload_n S.1 S.2.1 dX12_passes_65 rfl (lv_at hl 2 rfl) ?_
          refine lv_iload_n S.1 S.2.1 dX12_passes_66 rfl (lv_at hl 0 rfl) ?_
          refine g_aftR0 (st1 := [.int (b2i (f_X12_isOut ((L_X12_passes_56 mPpl mW n).2) (nI n))), .int ((L_X12_passes_56 mPpl mW n).1)]) (g_V (As := [.int (nI n)]) (rest := [.int ((L_X12_passes_56 mPpl mW n).1)]) S mi_X12_isOut qw1567 (c_X12_isOut l D A wl α (k) mTaped mErr mPpl mBts mUs mRa mSt mKi mWd mVal mLet mFin mNp mNb mOuts mWant mFnd mTape mNum mNam mFst mBnm ((L_X12_passes_56 mPpl mW n).2) mUn mSl mKp mnNum mnNam mnBo mnBn (nI n) hB0 (by first | assumption | exact vin_d (by decide) | exact vp_in_nI (by omega) (by decide) | decide | omega)) hK hP hD hE hS (hB0 0 _ rfl) rfl rfl rfl hl.1 (Nat.le_of_ble_eq_true rfl) rfl rfl ⟨(Nat.le_of_ble_eq_true rfl), (Nat.le_of_ble_eq_true rfl)⟩ ⟨(Nat.le_of_ble_eq_true rfl), (Nat.le_of_ble_eq_true rfl)⟩ dX12_passes_67) hS rfl (fun locs hS => ?_)
          refine g_bifeq (b := (f_X12_isOut ((L_X12_passes_56 mPpl mW n).2) (nI n))) (tgt := 96) S dX12_passes_70 (by decide) (fun (c4 : (f_X12_isOut ((L_X12_passes_56 mPpl mW n).2) (nI n)) = false) => ?_) (fun (c4 : (f_X12_isOut ((L_X12_passes_56 mPpl mW n).2) (nI n)) = true) => ?_)
          · refine lv_iconst (v := 0) S.1 S.2.1 dX12_passes_96 (by decide) ?_
            refine lv_iadd S.1 S.2.1 dX12_passes_97 ?_
            refine lv_istore_n (lv' := [(1, .int ((L_X12_passes_56 mPpl mW n).1 + 0)), (2, .int (nI n)), (0, .ref (α (k)))]) S.1 S.2.1 dX12_passes_98 rfl hl (by decide) rfl (fun ls hl => ?_)
            refine lv_iinc (v := (nI (n + 1))) (lv' := [(2, .int (nI (n + 1))), (1, .int ((L_X12_passes_56 mPpl mW n).1 + 0)), (0, .ref (α (k)))]) S.1 S.2.1 dX12_passes_99 hl (k := 1) rfl ((nI_succ n).symm) (by decide) rfl (fun ls hl => ?_)
            refine lv_goto (tgt := 56) S.1 S.2.1 dX12_passes_102 (by decide) ?_
            have hL : (L_X12_passes_56 mPpl mW (n + 1)) = (((L_X12_passes_56 mPpl mW n).1 + 0), (L_X12_passes_56 mPpl mW n).2) := (iter_s _ _ _).trans (cd_f c4)
            refine ih (n + 1) (by omega) _ _ _ _ hP hD hS hF ?_ ?_
            · rw [hL]; exact hB0
            · rw [hL]; exact lv_sub hl [0, 1, 2] rfl
          · refine lv_aload_n S.1 S.2.1 dX12_passes_73 rfl (lv_at hl 2 rfl) ?_
            refine lv_iload_n S.1 S.2.1 dX12_passes_74 rfl (lv_at hl 0 rfl) ?_
            refine lv_iconst (v := 1) S.1 S.2.1 dX12_passes_75 (by decide) ?_
            refine g_aftR0 (st1 := [.int (f_X12_ofBoat ((L_X12_passes_56 mPpl mW n).2) (nI n) 1), .int ((L_X12_passes_56 mPpl mW n).1)]) (g_V (As := [.int (nI n), .int 1]) (rest := [.int ((L_X12_passes_56 mPpl mW n).1)]) S mi_X12_ofBoat qw1571 (c_X12_ofBoat l D A wl α (k) mTaped mErr mPpl mBts mUs mRa mSt mKi mWd mVal mLet mFin mNp mNb mOuts mWant mFnd mTape mNum mNam mFst mBnm ((L_X12_passes_56 mPpl mW n).2) mUn mSl mKp mnNum mnNam mnBo mnBn (nI n) 1 hB0 (by first | assumption | exact vin_d (by decide) | exact vp_in_nI (by omega) (by decide) | decide | omega) (by first | assumption | exact vin_d (by decide) | exact vp_in_nI (by omega) (by decide) | decide | omega)) hK hP hD hE hS (hB0 0 _ rfl) rfl rfl rfl hl.1 (Nat.le_of_ble_eq_true rfl) rfl rfl ⟨(Nat.le_of_ble_eq_true rfl), (Nat.le_of_ble_eq_true rfl)⟩ ⟨(Nat.le_of_ble_eq_true rfl), (Nat.le_of_ble_eq_true rfl)⟩ dX12_passes_76) hS rfl (fun locs hS => ?_)
            refine lv_aload_n S.1 S.2.1 dX12_passes_79 rfl (lv_at hl 2 rfl) ?_
            refine g_get (v := .ref (α (k + 6))) S hK hP (hB0 0 _ rfl) rfl inX12 9 (by decide) qw1383 rfl dX12_passes_80 ?_
            refine lv_iconst (v := 0) S.1 S.2.1 dX12_passes_83 (by decide) ?_
            refine g_iald S hK hP (hB0 6 _ rfl) (by first | assumption | exact vin_d (by decide) | exact vp_in_nI (by omega) (by decide) | decide) dX12_passes_84 ?_
            refine lv_icmp_ne (tgt := 96) S.1 S.2.1 dX12_passes_85 (by decide) (fun (c5 : ¬ (f_X12_ofBoat ((L_X12_passes_56 mPpl mW n).2) (nI n) 1) = ((L_X12_passes_56 mPpl mW n).2 0)) => ?_) (fun (c5 : (f_X12_ofBoat ((L_X12_passes_56 mPpl mW n).2) (nI n) 1) = ((L_X12_passes_56 mPpl mW n).2 0)) => ?_)
            · refine lv_iconst (v := 0) S.1 S.2.1 dX12_passes_96 (by decide) ?_
              refine lv_iadd S.1 S.2.1 dX12_passes_97 ?_
              refine lv_istore_n (lv' := [(1, .int ((L_X12_passes_56 mPpl mW n).1 + 0)), (2, .int (nI n)), (0, .ref (α (k)))]) S.1 S.2.1 dX12_passes_98 rfl hl (by decide) rfl (fun ls hl => ?_)
              refine lv_iinc (v := (nI (n + 1))) (lv' := [(2, .int (nI (n + 1))), (1, .int ((L_X12_passes_56 mPpl mW n).1 + 0)), (0, .ref (α (k)))]) S.1 S.2.1 dX12_passes_99 hl (k := 1) rfl ((nI_succ n).symm) (by decide) rfl (fun ls hl => ?_)
              refine lv_goto (tgt := 56) S.1 S.2.1 dX12_passes_102 (by decide) ?_
              have hL : (L_X12_passes_56 mPpl mW (n + 1)) = (((L_X12_passes_56 mPpl mW n).1 + 0), (L_X12_passes_56 mPpl mW n).2) := (iter_s _ _ _).trans ((cd_t c4).trans (if_neg c5))
              refine ih (n + 1) (by omega) _ _ _ _ hP hD hS hF ?_ ?_
              · rw [hL]; exact hB0
              · rw [hL]; exact lv_sub hl [0, 1, 2] rfl
            · refine lv_aload_n S.1 S.2.1 dX12_passes_88 rfl (lv_at hl 2 rfl) ?_
              refine lv_iload_n S.1 S.2.1 dX12_passes_89 rfl (lv_at hl 0 rfl) ?_
              refine g_aft0 (st1 := [.int ((f_X12_comesHome mPpl ((L_X12_passes_56 mPpl mW n).2) (nI n)).1), .int ((L_X12_passes_56 mPpl mW n).1)]) (g_V (As := [.int (nI n)]) (rest := [.int ((L_X12_passes_56 mPpl mW n).1)]) S mi_X12_comesHome qw1603 (c_X12_comesHome l D A wl α (k) mTaped mErr mPpl mBts mUs mRa mSt mKi mWd mVal mLet mFin mNp mNb mOuts mWant mFnd mTape mNum mNam mFst mBnm ((L_X12_passes_56 mPpl mW n).2) mUn mSl mKp mnNum mnNam mnBo mnBn (nI n) hB0 (by first | assumption | exact vin_d (by decide) | exact vp_in_nI (by omega) (by decide) | decide | omega) (by first | assumption | exact vin_d (by decide) | exact vp_in_nI (by omega) (by decide) | decide | omega) (by exact passes_b hy0 hy1 hy2 _ (by omega))) hK hP hD hE hS (hB0 0 _ rfl) rfl rfl rfl hl.1 (Nat.le_of_ble_eq_true rfl) rfl rfl ⟨(Nat.le_of_ble_eq_true rfl), (Nat.le_of_ble_eq_true rfl)⟩ ⟨(Nat.le_of_ble_eq_true rfl), (Nat.le_of_ble_eq_true rfl)⟩ dX12_passes_90) hS rfl (fun w2 H locs hQ hP hD hS => ?_)
              have hF := hF.trans hQ.2
              have hB0 : Blk w2 k (cM D α k mTaped mErr mPpl mBts mUs mRa mSt mKi mWd mVal mLet mFin mNp mNb mOuts mWant mFnd mTape mNum mNam mFst mBnm ((f_X12_comesHome mPpl ((L_X12_passes_56 mPpl mW n).2) (nI n)).2) mUn mSl mKp mnNum mnNam mnBo mnBn) := hQ.1
              refine lv_goto (tgt := 97) S.1 S.2.1 dX12_passes_93 (by decide) ?_
              refine lv_iadd S.1 S.2.1 dX12_passes_97 ?_
              refine lv_istore_n (lv' := [(1, .int ((L_X12_passes_56 mPpl mW n).1 + (f_X12_comesHome mPpl ((L_X12_passes_56 mPpl mW n).2) (nI n)).1)), (2, .int (nI n)), (0, .ref (α (k)))]) S.1 S.2.1 dX12_passes_98 rfl hl (by decide) rfl (fun ls hl => ?_)
              refine lv_iinc (v := (nI (n + 1))) (lv' := [(2, .int (nI (n + 1))), (1, .int ((L_X12_passes_56 mPpl mW n).1 + (f_X12_comesHome mPpl ((L_X12_passes_56 mPpl mW n).2) (nI n)).1)), (0, .ref (α (k)))]) S.1 S.2.1 dX12_passes_99 hl (k := 1) rfl ((nI_succ n).symm) (by decide) rfl (fun ls hl => ?_)
              refine lv_goto (tgt := 56) S.1 S.2.1 dX12_passes_102 (by decide) ?_
              have hL : (L_X12_passes_56 mPpl mW (n + 1)) = (((L_X12_passes_56 mPpl mW n).1 + (f_X12_comesHome mPpl ((L_X12_passes_56 mPpl mW n).2) (nI n)).1), (f_X12_comesHome mPpl ((L_X12_passes_56 mPpl mW n).2) (nI n)).2) := (iter_s _ _ _).trans ((cd_t c4).trans (if_pos c5))
              refine ih (n + 1) (by omega) _ _ _ _ hP hD hS hF ?_ ?_
              · rw [hL]; exact hB0
              · rw [hL]; exact lv_sub hl [0, 1, 2] rfl
      have hL0 : (L_X12_passes_56 mPpl mW 0) = (0, (L_X12_passes_12 mW mPpl.toNatClampNeg)) := iter_z _ _
      exact lp56 mBts.toNatClampNeg 0 (Nat.zero_add _) _ _ _ _ hP hD hS hF (by rw [hL0]; exact hB0) (by rw [hL0]; exact lv_sub hl [0, 1, 2] rfl)
    | succ j ih =>
      intro n hn wl H locs ls hP hD hS hF hB0 hl
      refine lv_iload_n S.1 S.2.1 dX12_passes_12 rfl (lv_at hl 0 rfl) ?_
      refine lv_aload_n S.1 S.2.1 dX12_passes_13 rfl (lv_at hl 1 rfl) ?_
      refine g_get (v := .int mPpl) S hK hP (hB0 0 _ rfl) rfl inX12 4 (by decide) qw1378 rfl dX12_passes_14 ?_
      refine lv_icmp_ge (tgt := 52) S.1 S.2.1 dX12_passes_17 (by decide) (fun (c6 : mPpl ≤ (nI n)) => absurd c6 (lp_in (s := 0) (rfl) hn)) (fun (c6 : ¬ mPpl ≤ (nI n)) => ?_)
      refine lv_aload_n S.1 S.2.1 dX12_passes_20 rfl (lv_at hl 1 rfl) ?_
      refine lv_iload_n S.1 S.2.1 dX12_passes_21 rfl (lv_at hl 0 rfl) ?_
      refine lv_iconst (v := 3) S.1 S.2.1 dX12_passes_22 (by decide) ?_
      refine lv_aload_n S.1 S.2.1 dX12_passes_23 rfl (lv_at hl 1 rfl) ?_
      refine lv_iload_n S.1 S.2.1 dX12_passes_24 rfl (lv_at hl 0 rfl) ?_
      refine lv_iconst (v := 3) S.1 S.2.1 dX12_passes_25 (by decide) ?_
      refine g_aftR0 (st1 := [.int (f_X12_of (L_X12_passes_12 mW n) (nI n) 3), .int 3, .int (nI n), .ref (α (k))]) (g_V (As := [.int (nI n), .int 3]) (rest := [.int 3, .int (nI n), .ref (α (k))]) S mi_X12_of qw1579 (c_X12_of l D A wl α (k) mTaped mErr mPpl mBts mUs mRa mSt mKi mWd mVal mLet mFin mNp mNb mOuts mWant mFnd mTape mNum mNam mFst mBnm (L_X12_passes_12 mW n) mUn mSl mKp mnNum mnNam mnBo mnBn (nI n) 3 hB0 (by first | assumption | exact vin_d (by decide) | exact vp_in_nI (by omega) (by decide) | decide | omega) (by first | assumption | exact vin_d (by decide) | exact vp_in_nI (by omega) (by decide) | decide | omega)) hK hP hD hE hS (hB0 0 _ rfl) rfl rfl rfl hl.1 (Nat.le_of_ble_eq_true rfl) rfl rfl ⟨(Nat.le_of_ble_eq_true rfl), (Nat.le_of_ble_eq_true rfl)⟩ ⟨(Nat.le_of_ble_eq_true rfl), (Nat.le_of_ble_eq_true rfl)⟩ dX12_passes_26) hS rfl (fun locs hS => ?_)
      refine lv_aload_n S.1 S.2.1 dX12_passes_29 rfl (lv_at hl 1 rfl) ?_
      refine lv_iload_n S.1 S.2.1 dX12_passes_30 rfl (lv_at hl 0 rfl) ?_
      refine g_aftR0 (st1 := [.int (b2i (f_X12_isAtSea (L_X12_passes_12 mW n) (nI n))), .int (f_X12_of (L_X12_passes_12 mW n) (nI n) 3), .int 3, .int (nI n), .ref (α (k))]) (g_V (As := [.int (nI n)]) (rest := [.int (f_X12_of (L_X12_passes_12 mW n) (nI n) 3), .int 3, .int (nI n), .ref (α (k))]) S mi_X12_isAtSea qw1583 (c_X12_isAtSea l D A wl α (k) mTaped mErr mPpl mBts mUs mRa mSt mKi mWd mVal mLet mFin mNp mNb mOuts mWant mFnd mTape mNum mNam mFst mBnm (L_X12_passes_12 mW n) mUn mSl mKp mnNum mnNam mnBo mnBn (nI n) hB0 (by first | assumption | exact vin_d (by decide) | exact vp_in_nI (by omega) (by decide) | decide | omega)) hK hP hD hE hS (hB0 0 _ rfl) rfl rfl rfl hl.1 (Nat.le_of_ble_eq_true rfl) rfl rfl ⟨(Nat.le_of_ble_eq_true rfl), (Nat.le_of_ble_eq_true rfl)⟩ ⟨(Nat.le_of_ble_eq_true rfl), (Nat.le_of_ble_eq_true rfl)⟩ dX12_passes_31) hS rfl (fun locs hS => ?_)
      refine g_bifeq (b := (f_X12_isAtSea (L_X12_passes_12 mW n) (nI n))) (tgt := 41) S dX12_passes_34 (by decide) (fun (c7 : (f_X12_isAtSea (L_X12_passes_12 mW n) (nI n)) = false) => ?_) (fun (c7 : (f_X12_isAtSea (L_X12_passes_12 mW n) (nI n)) = true) => ?_)
      · refine lv_iconst (v := 0) S.1 S.2.1 dX12_passes_41 (by decide) ?_
        refine lv_iadd S.1 S.2.1 dX12_passes_42 ?_
        refine g_aft0 (st1 := []) (g_V (As := [.int (nI n), .int 3, .int ((f_X12_of (L_X12_passes_12 mW n) (nI n) 3) + 0)]) (rest := []) S mi_X12_sets qw1362 (c_X12_sets l D A wl α (k) mTaped mErr mPpl mBts mUs mRa mSt mKi mWd mVal mLet mFin mNp mNb mOuts mWant mFnd mTape mNum mNam mFst mBnm (L_X12_passes_12 mW n) mUn mSl mKp mnNum mnNam mnBo mnBn (nI n) 3 ((f_X12_of (L_X12_passes_12 mW n) (nI n) 3) + 0) hB0 (by first | assumption | exact vin_d (by decide) | exact vp_in_nI (by omega) (by decide) | decide | omega) (by first | assumption | exact vin_d (by decide) | exact vp_in_nI (by omega) (by decide) | decide | omega)) hK hP hD hE hS (hB0 0 _ rfl) rfl rfl rfl hl.1 (Nat.le_of_ble_eq_true rfl) rfl rfl ⟨(Nat.le_of_ble_eq_true rfl), (Nat.le_of_ble_eq_true rfl)⟩ ⟨(Nat.le_of_ble_eq_true rfl), (Nat.le_of_ble_eq_true rfl)⟩ dX12_passes_43) hS rfl (fun w3 H locs hQ hP hD hS => ?_)
        have hF := hF.trans hQ.2
        have hB0 : Blk w3 k (cM D α k mTaped mErr mPpl mBts mUs mRa mSt mKi mWd mVal mLet mFin mNp mNb mOuts mWant mFnd mTape mNum mNam mFst mBnm (f_X12_sets (L_X12_passes_12 mW n) (nI n) 3 ((f_X12_of (L_X12_passes_12 mW n) (nI n) 3) + 0)) mUn mSl mKp mnNum mnNam mnBo mnBn) := hQ.1
        refine lv_iinc (v := (nI (n + 1))) (lv' := [(1, .int (nI (n + 1))), (0, .ref (α (k)))]) S.1 S.2.1 dX12_passes_46 hl (k := 0) rfl ((nI_succ n).symm) (by decide) rfl (fun ls hl => ?_)
        refine lv_goto (tgt := 12) S.1 S.2.1 dX12_passes_49 (by decide) ?_
        have hL : (L_X12_passes_12 mW (n + 1)) = (f_X12_sets (L_X12_passes_12 mW n) (nI n) 3 ((f_X12_of (L_X12_passes_12 mW n) (nI n) 3) + 0)) := (iter_s _ _ _).trans (cd_f c7)
        refine ih (n + 1) (by omega) _ _ _ _ hP hD hS hF ?_ ?_
        · rw [hL]; exact hB0
        · exact lv_sub hl [0, 1] rfl
      · refine lv_iconst (v := 1) S.1 S.2.1 dX12_passes_37 (by decide) ?_
        refine lv_goto (tgt := 42) S.1 S.2.1 dX12_passes_38 (by decide) ?_
        refine lv_iadd S.1 S.2.1 dX12_passes_42 ?_
        refine g_aft0 (st1 := []) (g_V (As := [.int (nI n), .int 3, .int ((f_X12_of (L_X12_passes_12 mW n) (nI n) 3) + 1)]) (rest := []) S mi_X12_sets qw1362 (c_X12_sets l D A wl α (k) mTaped mErr mPpl mBts mUs mRa mSt mKi mWd mVal mLet mFin mNp mNb mOuts mWant mFnd mTape mNum mNam mFst mBnm (L_X12_passes_12 mW n) mUn mSl mKp mnNum mnNam mnBo mnBn (nI n) 3 ((f_X12_of (L_X12_passes_12 mW n) (nI n) 3) + 1) hB0 (by first | assumption | exact vin_d (by decide) | exact vp_in_nI (by omega) (by decide) | decide | omega) (by first | assumption | exact vin_d (by decide) | exact vp_in_nI (by omega) (by decide) | decide | omega)) hK hP hD hE hS (hB0 0 _ rfl) rfl rfl rfl hl.1 (Nat.le_of_ble_eq_true rfl) rfl rfl ⟨(Nat.le_of_ble_eq_true rfl), (Nat.le_of_ble_eq_true rfl)⟩ ⟨(Nat.le_of_ble_eq_true rfl), (Nat.le_of_ble_eq_true rfl)⟩ dX12_passes_43) hS rfl (fun w4 H locs hQ hP hD hS => ?_)
        have hF := hF.trans hQ.2
        have hB0 : Blk w4 k (cM D α k mTaped mErr mPpl mBts mUs mRa mSt mKi mWd mVal mLet mFin mNp mNb mOuts mWant mFnd mTape mNum mNam mFst mBnm (f_X12_sets (L_X12_passes_12 mW n) (nI n) 3 ((f_X12_of (L_X12_passes_12 mW n) (nI n) 3) + 1)) mUn mSl mKp mnNum mnNam mnBo mnBn) := hQ.1
        refine lv_iinc (v := (nI (n + 1))) (lv' := [(1, .int (nI (n + 1))), (0, .ref (α (k)))]) S.1 S.2.1 dX12_passes_46 hl (k := 0) rfl ((nI_succ n).symm) (by decide) rfl (fun ls hl => ?_)
        refine lv_goto (tgt := 12) S.1 S.2.1 dX12_passes_49 (by decide) ?_
        have hL : (L_X12_passes_12 mW (n + 1)) = (f_X12_sets (L_X12_passes_12 mW n) (nI n) 3 ((f_X12_of (L_X12_passes_12 mW n) (nI n) 3) + 1)) := (iter_s _ _ _).trans (cd_t c7)
        refine ih (n + 1) (by omega) _ _ _ _ hP hD hS hF ?_ ?_
        · rw [hL]; exact hB0
        · exact lv_sub hl [0, 1] rfl
  have hL0 : (L_X12_passes_12 mW 0) = (upd mW 0 ((mW 0) + 1)) := iter_z _ _
  exact lp12 mPpl.toNatClampNeg 0 (Nat.zero_add _) _ _ _ _ hP hD hS hF (by rw [hL0]; exact hB0) (lv_sub hl [0, 1] rfl)
