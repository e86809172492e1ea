def L_X12_strikes_7 (mW : Nat → Int32) (x : Int32) : Nat → (Nat → Int32) := iter_ (fun n sn => (if ((x >>> ((nI n) &&& 31)) &&& 1) = 1 then (f_X12_tells (f_X12_sets sn (nI n) 5 3) 4 (nI n) (f_X12_of (f_X12_sets sn (nI n) 5 3) (nI n) 10)) else sn)) mW
def f_X12_strikes (mPpl : Int32) (mBts : Int32) (mNum : Nat → Int32) (mW : Nat → Int32) (x : Int32) : (Nat → Int32) := (bif (f_X12_isOpen (L_X12_strikes_7 mW x mPpl.toNatClampNeg)) then (L_X12_strikes_7 mW x mPpl.toNatClampNeg) else (if (f_X12_resultNow mPpl mBts mNum (f_X12_keepsPast mPpl mBts mNum (L_X12_strikes_7 mW x mPpl.toNatClampNeg))) = (f_X12_resultNow mPpl mBts mNum mW) then (f_X12_keepsPast mPpl mBts mNum (L_X12_strikes_7 mW x mPpl.toNatClampNeg)) else (f_X12_tells (f_X12_keepsPast mPpl mBts mNum (L_X12_strikes_7 mW x mPpl.toNatClampNeg)) 7 (((f_X12_keepsPast mPpl mBts mNum (L_X12_strikes_7 mW x mPpl.toNatClampNeg)) 1) - 1) (f_X12_orMinus (f_X12_resultNow mPpl mBts mNum (f_X12_keepsPast mPpl mBts mNum (L_X12_strikes_7 mW x mPpl.toNatClampNeg)))))))
theorem keepsPast_ne {mPpl mBts : Int32} {mNum mW : Nat → Int32} (h : ¬ mW 1 - 1 < 0) {j : Nat} (hj : j < 247) : f_X12_keepsPast mPpl mBts mNum mW j = mW j := by
  unfold f_X12_keepsPast
  rw [upd_ne (past_ne h (vin_d (by decide)) hj), upd_ne (past_ne h (vin_d (by decide)) hj), upd_ne (past_ne h (vin_d (by decide)) hj), upd_ne (past_ne0 h hj)]
theorem isOpen_cong {f g : Nat → Int32} (h : f 2 = g 2) : f_X12_isOpen f = f_X12_isOpen g := by
  unfold f_X12_isOpen
  rw [h]
theorem strikes_a {mPpl x : Int32} {mW : Nat → Int32} (h : vp_in mPpl 21) (hl : vp_in (mW 8) 31) : ∀ n, n ≤ mPpl.toNatClampNeg → (fun s : Nat → Int32 => (∀ j, j < 8 → s j = mW j) ∧ vp_in (s 8) 31) (L_X12_strikes_7 mW x n) := by
  have hn := vin_lt h
  refine iter_inv (fun _ (s : Nat → Int32) => (∀ j, j < 8 → s j = mW j) ∧ vp_in (s 8) 31) ⟨fun _ _ => rfl, hl⟩ (fun n s hk hs => ?_)
  show (∀ j, j < 8 → (ite _ _ _ : Nat → Int32) j = mW j) ∧ vp_in ((ite _ _ _ : Nat → Int32) 8) 31
  split
  · have q := lg_sets (v := 3) hs.2 (vp_in_nI (show n < 20 by omega) (by decide)) (vin_d (x := 5) (by decide))
    refine ⟨fun j hj => ?_, lg_tells q⟩
    rw [(tells_9 q).1 j (by omega) (by omega), sets_ne (vp_in_nI (by omega) (by decide)) (vin_d (by decide)) (Or.inl (by omega))]
    exact hs.1 j hj
  · exact hs
theorem strikes_v {mPpl x : Int32} {mW : Nat → Int32} (h : vp_in mPpl 21) (hl : vp_in (mW 8) 31) (hv : f_X12_isOpen mW = false → ¬ mW 1 - 1 < 0) (c : f_X12_isOpen (L_X12_strikes_7 mW x mPpl.toNatClampNeg) = false) : ¬ (L_X12_strikes_7 mW x mPpl.toNatClampNeg) 1 - 1 < 0 := by
  have q := (strikes_a (x := x) h hl _ (Nat.le_refl _)).1
  rw [q 1 (by decide)]
  exact hv (by rw [← c]; exact (isOpen_cong (q 2 (by decide))).symm)
theorem strikes_d {mPpl mBts x : Int32} {mNum mW : Nat → Int32} (h : vp_in mPpl 21) (hl : vp_in (mW 8) 31) (hd : 0 ≤ mW 0) (hk : ¬ (L_X12_strikes_7 mW x mPpl.toNatClampNeg) 1 - 1 < 0) : 0 ≤ f_X12_keepsPast mPpl mBts mNum (L_X12_strikes_7 mW x mPpl.toNatClampNeg) 0 := by
  rw [keepsPast_ne hk (by decide), (strikes_a (x := x) h hl _ (Nat.le_refl _)).1 0 (by decide)]
  exact hd
theorem strikes_l {mPpl mBts x : Int32} {mNum mW : Nat → Int32} (h : vp_in mPpl 21) (hl : vp_in (mW 8) 31) (hk : ¬ (L_X12_strikes_7 mW x mPpl.toNatClampNeg) 1 - 1 < 0) : vp_in (f_X12_keepsPast mPpl mBts mNum (L_X12_strikes_7 mW x mPpl.toNatClampNeg) 8) 31 := by
  rw [keepsPast_ne hk (by decide)]
  exact (strikes_a (x := x) h hl _ (Nat.le_refl _)).2
set_option maxHeartbeats 4000000 in
set_option maxRecDepth 100000 in
theorem c_X12_strikes (l : Launch) (D : va_G) (A : Nat → Prop) (w : va_W) (α : Nat → Nat) (k : Nat) (mTaped : Int32) (mErr : Int32) (mPpl : Int32) (mBts : Int32) (mUs : Int32) (mRa : Int32) (mSt : Int32) (mKi : Int32) (mWd : Int64) (mVal : Int32) (mLet : Int32) (mFin : Int32) (mNp : Int32) (mNb : Int32) (mOuts : Int32) (mWant : Int32) (mFnd : Int32) (mTape : Nat → Int32) (mNum : Nat → Int32) (mNam : Nat → Int32) (mFst : Nat → Int32) (mBnm : Nat → Int32) (mW : Nat → Int32) (mUn : Nat → Int32) (mSl : Nat → Int32) (mKp : Nat → Int32) (mnNum : Nat → Int32) (mnNam : Nat → Int32) (mnBo : Nat → Int32) (mnBn : Nat → Int32) (x : Int32) (hB0 : Blk w k (cM D α k mTaped mErr mPpl mBts mUs mRa mSt mKi mWd mVal mLet mFin mNp mNb mOuts mWant mFnd mTape mNum mNam mFst mBnm mW mUn mSl mKp mnNum mnNam mnBo mnBn)) (hy0 : vp_in mPpl 21) (hy1 : 0 ≤ mW 0) (hy2 : 0 < mNum 0) (hy3 : vp_in mBts 7) (hy4 : vp_in (mW 8) 31) (hy5 : f_X12_isOpen mW = false → ¬ mW 1 - 1 < 0) : Met l yX12_strikes (ws_ yX12_strikes cX12_strikes 4 none) ({ frames := 7, cells := 0, slots := 0, locals := 149 }) (gPre D A [.ref (α (k)), .int x] w) (gQ D A none (fun w1 => Blk w1 k (cM D α k mTaped mErr mPpl mBts mUs mRa mSt mKi mWd mVal mLet mFin mNp mNb mOuts mWant mFnd mTape mNum mNam mFst mBnm (f_X12_strikes mPpl mBts mNum mW x) mUn mSl mKp mnNum mnNam mnBo mnBn) ∧ Same w w1 k 14)) 0 0 A := by
  refine g_met [(0, .ref (α (k))), (1, .int x)] (plainFor_of_name (by decide)) (Nat.le_of_ble_eq_true rfl) rfl (fun pg en s mi ar below me co ls S hK hP hD hE hS hr hlk hnm hl => ?_)
  have hF : Same w w k 14 := Same.rf
  have hpn := vin_lt (show vp_in mPpl 21 by assumption)
  refine lv_aload_n S.1 S.2.1 dX12_strikes_0 rfl (lv_at hl 0 rfl) ?_
  refine g_aftR0 (st1 := [.int (f_X12_resultNow mPpl mBts mNum mW)]) (g_V (As := []) (rest := []) S mi_X12_resultNow qw1688 (c_X12_resultNow l D A w α (k) mTaped mErr mPpl mBts mUs mRa mSt mKi mWd mVal mLet mFin mNp mNb mOuts mWant mFnd mTape mNum mNam mFst mBnm mW mUn mSl mKp mnNum mnNam mnBo mnBn hB0 (by first | assumption | exact vin_d (by decide) | exact vp_in_nI (by omega) (by decide) | decide | omega) (by first | assumption | exact vin_d (by decide) | exact vp_in_nI (by omega) (by decide) | decide | omega) (by first | assumption | exact vin_d (by decide) | exact vp_in_nI (by omega) (by decide) | decide | omega) (by first | assumption | exact vin_d (by decide) | exact vp_in_nI (by omega) (by decide) | decide | omega)) hK hP hD hE hS (hB0 0 _ rfl) rfl rfl rfl hl.1 (Nat.le_of_ble_eq_true rfl) rfl rfl ⟨(Nat.le_of_ble_eq_true rfl), (Nat.le_of_ble_eq_true rfl)⟩ ⟨(Nat.le_of_ble_eq_true rfl), (Nat.le_of_ble_eq_true rfl)⟩ dX12_strikes_1) hS rfl (fun locs hS => ?_)
  refine lv_istore_n (lv' := [(2, .int (f_X12_resultNow mPpl mBts mNum mW)), (0, .ref (α (k))), (1, .int x)]) S.1 S.2.1 dX12_strikes_4 rfl hl (by decide) rfl (fun ls hl => ?_)
  refine lv_iconst (v := 0) S.1 S.2.1 dX12_strikes_5 (by decide) ?_
  refine lv_istore_n (lv' := [(3, .int 0), (2, .int (f_X12_resultNow mPpl mBts mNum mW)), (0, .ref (α (k))), (1, .int x)]) S.1 S.2.1 dX12_strikes_6 rfl hl (by decide) rfl (fun ls hl => ?_)
  have lp7 : ∀ (j n : Nat), n + j = mPpl.toNatClampNeg → ∀ (wl : va_W) (H : Heap) (locs : List Loc) (ls : Array Slot), va_P D vwCl wl H → va_D A wl → va_S A s.heap H locs → Same w wl k 14 → Blk wl k (cM D α k mTaped mErr mPpl mBts mUs mRa mSt mKi mWd mVal mLet mFin mNp mNb mOuts mWant mFnd mTape mNum mNam mFst mBnm (L_X12_strikes_7 mW x n) mUn mSl mKp mnNum mnNam mnBo mnBn) → lv_has ls 4 [(3, .int (nI n)), (2, .int (f_X12_resultNow mPpl mBts mNum mW)), (0, .ref (α (k))), (1, .int x)] → W pg l en ({ frames := 7, cells := 0, slots := 0, locals := 149 } : Room) s mi ar below me co H locs 0 0 (MQ below (gQ D A none (fun w1 => Blk w1 k (cM D α k mTaped mErr mPpl mBts mUs mRa mSt mKi mWd mVal mLet mFin mNp mNb mOuts mWant mFnd mTape mNum mNam mFst mBnm (f_X12_strikes mPpl mBts mNum mW x) mUn mSl mKp mnNum mnNam mnBo mnBn) ∧ Same w w1 k 14)) ar s 0 0 A) (F0 mi 7 ls []) := by
    intro j
    induction j with
    | zero =>
      intro n hn wl H locs ls hP hD hS hF hB0 hl
      have hn : mPpl.toNatClampNeg = n := hn.symm
      subst hn
      refine lv_iload_n S.1 S.2.1 dX12_strikes_7 rfl (lv_at hl 0 rfl) ?_
      refine lv_aload_n S.1 S.2.1 dX12_strikes_8 rfl (lv_at hl 2 rfl) ?_
      refine g_get (v := .int mPpl) S hK hP (hB0 0 _ rfl) rfl inX12 4 (by decide) qw1378 rfl dX12_strikes_9 ?_
      refine lv_icmp_ge (tgt := 50) S.1 S.2.1 dX12_strikes_12 (by decide) (fun (c1 : mPpl ≤ (nI mPpl.toNatClampNeg)) => ?_) (fun (c1 : ¬ mPpl ≤ (nI mPpl.toNatClampNeg)) => absurd c1 (lp_out (s := 0) ((Nat.max_eq_left (Nat.zero_le _)).symm)))
      refine lv_aload_n S.1 S.2.1 dX12_strikes_50 rfl (lv_at hl 2 rfl) ?_
      refine g_aftR0 (st1 := [.int (b2i (f_X12_isOpen (L_X12_strikes_7 mW x mPpl.toNatClampNeg)))]) (g_V (As := []) (rest := []) S mi_X12_isOpen qw1621 (c_X12_isOpen l D A wl α (k) mTaped mErr mPpl mBts mUs mRa mSt mKi mWd mVal mLet mFin mNp mNb mOuts mWant mFnd mTape mNum mNam mFst mBnm (L_X12_strikes_7 mW x mPpl.toNatClampNeg) mUn mSl mKp mnNum mnNam mnBo mnBn hB0) hK hP hD hE hS (hB0 0 _ rfl) rfl rfl rfl hl.1 (Nat.le_of_ble_eq_true rfl) rfl rfl ⟨(Nat.le_of_ble_eq_true rfl), (Nat.le_of_ble_eq_true rfl)⟩ ⟨(Nat.le_of_ble_eq_true rfl), (Nat.le_of_ble_eq_true rfl)⟩ dX12_strikes_51) hS rfl (fun locs hS => ?_)
      refine g_bifeq (b := (f_X12_isOpen (L_X12_strikes_7 mW x mPpl.toNatClampNeg))) (tgt := 58) S dX12_strikes_54 (by decide) (fun (c2 : (f_X12_isOpen (L_X12_strikes_7 mW x mPpl.toNatClampNeg)) = false) => ?_) (fun (c2 : (f_X12_isOpen (L_X12_strikes_7 mW x mPpl.toNatClampNeg)) = true) => ?_)
      · have hk := strikes_v hy0 hy4 hy5 c2
        refine lv_aload_n S.1 S.2.1 dX12_strikes_58 rfl (lv_at hl 2 rfl) ?_
        refine g_aft0 (st1 := []) (g_V (As := []) (rest := []) S mi_X12_keepsPast qw1712 (c_X12_keepsPast l D A wl α (k) mTaped mErr mPpl mBts mUs mRa mSt mKi mWd mVal mLet mFin mNp mNb mOuts mWant mFnd mTape mNum mNam mFst mBnm (L_X12_strikes_7 mW x mPpl.toNatClampNeg) mUn mSl mKp mnNum mnNam mnBo mnBn hB0 (by exact hk) (by first | assumption | exact vin_d (by decide) | exact vp_in_nI (by omega) (by decide) | decide | omega) (by rw [(strikes_a hy0 hy4 _ (Nat.le_refl _)).1 0 (by decide)]; exact hy1) (by first | assumption | exact vin_d (by decide) | exact vp_in_nI (by omega) (by decide) | decide | omega) (by first | assumption | exact vin_d (by decide) | exact vp_in_nI (by omega) (by decide) | decide | omega)) hK hP hD hE hS (hB0 0 _ rfl) rfl rfl rfl hl.1 (Nat.le_of_ble_eq_true rfl) rfl rfl ⟨(Nat.le_of_ble_eq_true rfl), (Nat.le_of_ble_eq_true rfl)⟩ ⟨(Nat.le_of_ble_eq_true rfl), (Nat.le_of_ble_eq_true rfl)⟩ dX12_strikes_59) hS rfl (fun w1 H locs hQ hP hD hS => ?_)
        have hF := hF.trans hQ.2
        have hB0 : Blk w1 k (cM D α k mTaped mErr mPpl mBts mUs mRa mSt mKi mWd mVal mLet mFin mNp mNb mOuts mWant mFnd mTape mNum mNam mFst mBnm (f_X12_keepsPast mPpl mBts mNum (L_X12_strikes_7 mW x mPpl.toNatClampNeg)) mUn mSl mKp mnNum mnNam mnBo mnBn) := hQ.1
        refine lv_aload_n S.1 S.2.1 dX12_strikes_62 rfl (lv_at hl 2 rfl) ?_
        refine g_aftR0 (st1 := [.int (f_X12_resultNow mPpl mBts mNum (f_X12_keepsPast mPpl mBts mNum (L_X12_strikes_7 mW x mPpl.toNatClampNeg)))]) (g_V (As := []) (rest := []) S mi_X12_resultNow qw1688 (c_X12_resultNow l D A w1 α (k) mTaped mErr mPpl mBts mUs mRa mSt mKi mWd mVal mLet mFin mNp mNb mOuts mWant mFnd mTape mNum mNam mFst mBnm (f_X12_keepsPast mPpl mBts mNum (L_X12_strikes_7 mW x mPpl.toNatClampNeg)) mUn mSl mKp mnNum mnNam mnBo mnBn hB0 (by first | assumption | exact vin_d (by decide) | exact vp_in_nI (by omega) (by decide) | decide | omega) (by exact strikes_d hy0 hy4 hy1 hk) (by first | assumption | exact vin_d (by decide) | exact vp_in_nI (by omega) (by decide) | decide | omega) (by first | assumption | exact vin_d (by decide) | exact vp_in_nI (by omega) (by decide) | decide | omega)) hK hP hD hE hS (hB0 0 _ rfl) rfl rfl rfl hl.1 (Nat.le_of_ble_eq_true rfl) rfl rfl ⟨(Nat.le_of_ble_eq_true rfl), (Nat.le_of_ble_eq_true rfl)⟩ ⟨(Nat.le_of_ble_eq_true rfl), (Nat.le_of_ble_eq_true rfl)⟩ dX12_strikes_63) hS rfl (fun locs hS => ?_)
        refine lv_iload_n S.1 S.2.1 dX12_strikes_66 rfl (lv_at hl 1 rfl) ?_
        refine lv_icmp_eq (tgt := 91) S.1 S.2.1 dX12_strikes_67 (by decide) (fun (c3 : (f_X12_resultNow mPpl mBts mNum (f_X12_keepsPast mPpl mBts mNum (L_X12_strikes_7 mW x mPpl.toNatClampNeg))) = (f_X12_resultNow mPpl mBts mNum mW)) => ?_) (fun (c3 : ¬ (f_X12_resultNow mPpl mBts mNum (f_X12_keepsPast mPpl mBts mNum (L_X12_strikes_7 mW x mPpl.toNatClampNeg))) = (f_X12_resultNow mPpl mBts mNum mW)) => ?_)
        · have hf : (f_X12_strikes mPpl mBts mNum mW x) = (f_X12_keepsPast mPpl mBts mNum (L_X12_strikes_7 mW x mPpl.toNatClampNeg)) := (cd_f c2).trans (if_pos c3)
          exact g_vret S hr hlk hP hD hS (rfl) (⟨by rw [hf]; exact hB0, hF⟩) dX12_strikes_91
        · refine lv_aload_n S.1 S.2.1 dX12_strikes_70 rfl (lv_at hl 2 rfl) ?_
          refine lv_bipush (v := 7) S.1 S.2.1 dX12_strikes_71 (by decide) ?_
          refine lv_aload_n S.1 S.2.1 dX12_strikes_73 rfl (lv_at hl 2 rfl) ?_
          refine g_get (v := .ref (α (k + 6))) S hK hP (hB0 0 _ rfl) rfl inX12 9 (by decide) qw1383 rfl dX12_strikes_74 ?_
          refine lv_iconst (v := 1) S.1 S.2.1 dX12_strikes_77 (by decide) ?_
          refine g_iald S hK hP (hB0 6 _ rfl) (by first | assumption | exact vin_d (by decide) | exact vp_in_nI (by omega) (by decide) | decide) dX12_strikes_78 ?_
          refine lv_iconst (v := 1) S.1 S.2.1 dX12_strikes_79 (by decide) ?_
          refine lv_isub S.1 S.2.1 dX12_strikes_80 ?_
          refine lv_aload_n S.1 S.2.1 dX12_strikes_81 rfl (lv_at hl 2 rfl) ?_
          refine g_aftR0 (st1 := [.int (f_X12_resultNow mPpl mBts mNum (f_X12_keepsPast mPpl mBts mNum (L_X12_strikes_7 mW x mPpl.toNatClampNeg))), .int (((f_X12_keepsPast mPpl mBts mNum (L_X12_strikes_7 mW x mPpl.toNatClampNeg)) 1) - 1), .int 7, .ref (α (k))]) (g_V (As := []) (rest := [.int (((f_X12_keepsPast mPpl mBts mNum (L_X12_strikes_7 mW x mPpl.toNatClampNeg)) 1) - 1), .int 7, .ref (α (k))]) S mi_X12_resultNow qw1688 (c_X12_resultNow l D A w1 α (k) mTaped mErr mPpl mBts mUs mRa mSt mKi mWd mVal mLet mFin mNp mNb mOuts mWant mFnd mTape mNum mNam mFst mBnm (f_X12_keepsPast mPpl mBts mNum (L_X12_strikes_7 mW x mPpl.toNatClampNeg)) mUn mSl mKp mnNum mnNam mnBo mnBn hB0 (by first | assumption | exact vin_d (by decide) | exact vp_in_nI (by omega) (by decide) | decide | omega) (by exact strikes_d hy0 hy4 hy1 hk) (by first | assumption | exact vin_d (by decide) | exact vp_in_nI (by omega) (by decide) | decide | omega) (by first | assumption | exact vin_d (by decide) | exact vp_in_nI (by omega) (by decide) | decide | omega)) hK hP hD hE hS (hB0 0 _ rfl) rfl rfl rfl hl.1 (Nat.le_of_ble_eq_true rfl) rfl rfl ⟨(Nat.le_of_ble_eq_true rfl), (Nat.le_of_ble_eq_true rfl)⟩ ⟨(Nat.le_of_ble_eq_true rfl), (Nat.le_of_ble_eq_true rfl)⟩ dX12_strikes_82) hS rfl (fun locs hS => ?_)
          refine g_aftR0 (st1 := [.int (f_X12_orMinus (f_X12_resultNow mPpl mBts mNum (f_X12_keepsPast mPpl mBts mNum (L_X12_strikes_7 mW x mPpl.toNatClampNeg)))), .int (((f_X12_keepsPast mPpl mBts mNum (L_X12_strikes_7 mW x mPpl.toNatClampNeg)) 1) - 1), .int 7, .ref (α (k))]) (g_St (As := [.int (f_X12_resultNow mPpl mBts mNum (f_X12_keepsPast mPpl mBts mNum (L_X12_strikes_7 mW x mPpl.toNatClampNeg)))]) (rest := [.int (((f_X12_keepsPast mPpl mBts mNum (L_X12_strikes_7 mW x mPpl.toNatClampNeg)) 1) - 1), .int 7, .ref (α (k))]) S ms_X12_orMinus qw1724 (c_X12_orMinus l D A w1 α (f_X12_resultNow mPpl mBts mNum (f_X12_keepsPast mPpl mBts mNum (L_X12_strikes_7 mW x mPpl.toNatClampNeg)))) hK hP hD hE hS rfl rfl hl.1 (Nat.le_of_ble_eq_true rfl) rfl rfl ⟨(Nat.le_of_ble_eq_true rfl), (Nat.le_of_ble_eq_true rfl)⟩ ⟨(Nat.le_of_ble_eq_true rfl), (Nat.le_of_ble_eq_true rfl)⟩ dX12_strikes_85) hS rfl (fun locs hS => ?_)
          refine g_aft0 (st1 := []) (g_V (As := [.int 7, .int (((f_X12_keepsPast mPpl mBts mNum (L_X12_strikes_7 mW x mPpl.toNatClampNeg)) 1) - 1), .int (f_X12_orMinus (f_X12_resultNow mPpl mBts mNum (f_X12_keepsPast mPpl mBts mNum (L_X12_strikes_7 mW x mPpl.toNatClampNeg))))]) (rest := []) S mi_X12_tells qw1591 (c_X12_tells l D A w1 α (k) mTaped mErr mPpl mBts mUs mRa mSt mKi mWd mVal mLet mFin mNp mNb mOuts mWant mFnd mTape mNum mNam mFst mBnm (f_X12_keepsPast mPpl mBts mNum (L_X12_strikes_7 mW x mPpl.toNatClampNeg)) mUn mSl mKp mnNum mnNam mnBo mnBn 7 (((f_X12_keepsPast mPpl mBts mNum (L_X12_strikes_7 mW x mPpl.toNatClampNeg)) 1) - 1) (f_X12_orMinus (f_X12_resultNow mPpl mBts mNum (f_X12_keepsPast mPpl mBts mNum (L_X12_strikes_7 mW x mPpl.toNatClampNeg)))) hB0 (by exact strikes_l hy0 hy4 hk)) hK hP hD hE hS (hB0 0 _ rfl) rfl rfl rfl hl.1 (Nat.le_of_ble_eq_true rfl) rfl rfl ⟨(Nat.le_of_ble_eq_true rfl), (Nat.le_of_ble_eq_true rfl)⟩ ⟨(Nat.le_of_ble_eq_true rfl), (Nat.le_of_ble_eq_true rfl)⟩ dX12_strikes_88) hS rfl (fun w2 H locs hQ hP hD hS => ?_)
          have hF := hF.trans hQ.2
          have hB0 : Blk w2 k (cM D α k mTaped mErr mPpl mBts mUs mRa mSt mKi mWd mVal mLet mFin mNp mNb mOuts mWant mFnd mTape mNum mNam mFst mBnm (f_X12_tells (f_X12_keepsPast mPpl mBts mNum (L_X12_strikes_7 mW x mPpl.toNatClampNeg)) 7 (((f_X12_keepsPast mPpl mBts mNum (L_X12_strikes_7 mW x mPpl.toNatClampNeg)) 1) - 1) (f_X12_orMinus (f_X12_resultNow mPpl mBts mNum (f_X12_keepsPast mPpl mBts mNum (L_X12_strikes_7 mW x mPpl.toNatClampNeg))))) mUn mSl mKp mnNum mnNam mnBo mnBn) := hQ.1
          have hf : (f_X12_strikes mPpl mBts mNum mW x) = (f_X12_tells (f_X12_keepsPast mPpl mBts mNum (L_X12_strikes_7 mW x mPpl.toNatClampNeg)) 7 (((f_X12_keepsPast mPpl mBts mNum (L_X12_strikes_7 mW x mPpl.toNatClampNeg)) 1) - 1) (f_X12_orMinus (f_X12_resultNow mPpl mBts mNum (f_X12_keepsPast mPpl mBts mNum (L_X12_strikes_7 mW x mPpl.toNatClampNeg))))) := (cd_f c2).trans (if_neg c3)
          exact g_vret S hr hlk hP hD hS (rfl) (⟨by rw [hf]; exact hB0, hF⟩) dX12_strikes_91
      · have hf : (f_X12_strikes mPpl mBts mNum mW x) = (L_X12_strikes_7 mW x mPpl.toNatClampNeg) := cd_t c2
        exact g_vret S hr hlk hP hD hS (rfl) (⟨by rw [hf]; exact hB0, hF⟩) dX12_strikes_57
    | succ j ih =>
      intro n hn wl H locs ls hP hD hS hF hB0 hl
      refine lv_iload_n S.1 S.2.1 dX12_strikes_7 rfl (lv_at hl 0 rfl) ?_
      refine lv_aload_n S.1 S.2.1 dX12_strikes_8 rfl (lv_at hl 2 rfl) ?_
      refine g_get (v := .int mPpl) S hK hP (hB0 0 _ rfl) rfl inX12 4 (by decide) qw1378 rfl dX12_strikes_9 ?_
      refine lv_icmp_ge (tgt := 50) S.1 S.2.1 dX12_strikes_12 (by decide) (fun (c4 : mPpl ≤ (nI n)) => absurd c4 (lp_in (s := 0) (rfl) hn)) (fun (c4 : ¬ mPpl ≤ (nI n)) => ?_)
      refine lv_iload_n S.1 S.2.1 dX12_strikes_15 rfl (lv_at hl 3 rfl) ?_
      refine lv_iload_n S.1 S.2.1 dX12_strikes_16 rfl (lv_at hl 0 rfl) ?_
      refine lv_ishr S.1 S.2.1 dX12_strikes_17 ?_
      refine lv_iconst (v := 1) S.1 S.2.1 dX12_strikes_18 (by decide) ?_
      refine lv_iand S.1 S.2.1 dX12_strikes_19 ?_
      refine lv_iconst (v := 1) S.1 S.2.1 dX12_strikes_20 (by decide) ?_
      refine lv_icmp_ne (tgt := 44) S.1 S.2.1 dX12_strikes_21 (by decide) (fun (c5 : ¬ ((x >>> ((nI n) &&& 31)) &&& 1) = 1) => ?_) (fun (c5 : ((x >>> ((nI n) &&& 31)) &&& 1) = 1) => ?_)
      · refine lv_iinc (v := (nI (n + 1))) (lv' := [(3, .int (nI (n + 1))), (2, .int (f_X12_resultNow mPpl mBts mNum mW)), (0, .ref (α (k))), (1, .int x)]) S.1 S.2.1 dX12_strikes_44 hl (k := 0) rfl ((nI_succ n).symm) (by decide) rfl (fun ls hl => ?_)
        refine lv_goto (tgt := 7) S.1 S.2.1 dX12_strikes_47 (by decide) ?_
        have hL : (L_X12_strikes_7 mW x (n + 1)) = (L_X12_strikes_7 mW x n) := (iter_s _ _ _).trans (if_neg c5)
        refine ih (n + 1) (by omega) _ _ _ _ hP hD hS hF ?_ ?_
        · rw [hL]; exact hB0
        · exact lv_sub hl [0, 1, 2, 3] rfl
      · refine lv_aload_n S.1 S.2.1 dX12_strikes_24 rfl (lv_at hl 2 rfl) ?_
        refine lv_iload_n S.1 S.2.1 dX12_strikes_25 rfl (lv_at hl 0 rfl) ?_
        refine lv_iconst (v := 5) S.1 S.2.1 dX12_strikes_26 (by decide) ?_
        refine lv_iconst (v := 3) S.1 S.2.1 dX12_strikes_27 (by decide) ?_
        refine g_aft0 (st1 := []) (g_V (As := [.int (nI n), .int 5, .int 3]) (rest := []) S mi_X12_sets qw1362 (c_X12_sets l D A wl α (k) mTaped mErr mPpl mBts mUs mRa mSt mKi mWd mVal mLet mFin mNp mNb mOuts mWant mFnd mTape mNum mNam mFst mBnm (L_X12_strikes_7 mW x n) mUn mSl mKp mnNum mnNam mnBo mnBn (nI n) 5 3 hB0 (by first | assumption | exact vin_d (by decide) | exact vp_in_nI (by omega) (by decide) | decide | omega) (by first | assumption | exact vin_d (by decide) | exact vp_in_nI (by omega) (by decide) | decide | omega)) hK hP hD hE hS (hB0 0 _ rfl) rfl rfl rfl hl.1 (Nat.le_of_ble_eq_true rfl) rfl rfl ⟨(Nat.le_of_ble_eq_true rfl), (Nat.le_of_ble_eq_true rfl)⟩ ⟨(Nat.le_of_ble_eq_true rfl), (Nat.le_of_ble_eq_true rfl)⟩ dX12_strikes_28) hS rfl (fun w3 H locs hQ hP hD hS => ?_)
        have hF := hF.trans hQ.2
        have hB0 : Blk w3 k (cM D α k mTaped mErr mPpl mBts mUs mRa mSt mKi mWd mVal mLet mFin mNp mNb mOuts mWant mFnd mTape mNum mNam mFst mBnm (f_X12_sets (L_X12_strikes_7 mW x n) (nI n) 5 3) mUn mSl mKp mnNum mnNam mnBo mnBn) := hQ.1
        refine lv_aload_n S.1 S.2.1 dX12_strikes_31 rfl (lv_at hl 2 rfl) ?_
        refine lv_iconst (v := 4) S.1 S.2.1 dX12_strikes_32 (by decide) ?_
        refine lv_iload_n S.1 S.2.1 dX12_strikes_33 rfl (lv_at hl 0 rfl) ?_
        refine lv_aload_n S.1 S.2.1 dX12_strikes_34 rfl (lv_at hl 2 rfl) ?_
        refine lv_iload_n S.1 S.2.1 dX12_strikes_35 rfl (lv_at hl 0 rfl) ?_
        refine lv_bipush (v := 10) S.1 S.2.1 dX12_strikes_36 (by decide) ?_
        refine g_aftR0 (st1 := [.int (f_X12_of (f_X12_sets (L_X12_strikes_7 mW x n) (nI n) 5 3) (nI n) 10), .int (nI n), .int 4, .ref (α (k))]) (g_V (As := [.int (nI n), .int 10]) (rest := [.int (nI n), .int 4, .ref (α (k))]) S mi_X12_of qw1579 (c_X12_of l D A w3 α (k) mTaped mErr mPpl mBts mUs mRa mSt mKi mWd mVal mLet mFin mNp mNb mOuts mWant mFnd mTape mNum mNam mFst mBnm (f_X12_sets (L_X12_strikes_7 mW x n) (nI n) 5 3) mUn mSl mKp mnNum mnNam mnBo mnBn (nI n) 10 hB0 (by first | assumption | exact vin_d (by decide) | exact vp_in_nI (by omega) (by decide) | decide | omega) (by first | assumption | exact vin_d (by decide) | exact vp_in_nI (by omega) (by decide) | decide | omega)) hK hP hD hE hS (hB0 0 _ rfl) rfl rfl rfl hl.1 (Nat.le_of_ble_eq_true rfl) rfl rfl ⟨(Nat.le_of_ble_eq_true rfl), (Nat.le_of_ble_eq_true rfl)⟩ ⟨(Nat.le_of_ble_eq_true rfl), (Nat.le_of_ble_eq_true rfl)⟩ dX12_strikes_38) hS rfl (fun locs hS => ?_)
        refine g_aft0 (st1 := []) (g_V (As := [.int 4, .int (nI n), .int (f_X12_of (f_X12_sets (L_X12_strikes_7 mW x n) (nI n) 5 3) (nI n) 10)]) (rest := []) S mi_X12_tells qw1591 (c_X12_tells l D A w3 α (k) mTaped mErr mPpl mBts mUs mRa mSt mKi mWd mVal mLet mFin mNp mNb mOuts mWant mFnd mTape mNum mNam mFst mBnm (f_X12_sets (L_X12_strikes_7 mW x n) (nI n) 5 3) mUn mSl mKp mnNum mnNam mnBo mnBn 4 (nI n) (f_X12_of (f_X12_sets (L_X12_strikes_7 mW x n) (nI n) 5 3) (nI n) 10) hB0 (by exact lg_sets (strikes_a hy0 hy4 _ (by omega)).2 (vp_in_nI (by omega) (by decide)) (vin_d (by decide)))) hK hP hD hE hS (hB0 0 _ rfl) rfl rfl rfl hl.1 (Nat.le_of_ble_eq_true rfl) rfl rfl ⟨(Nat.le_of_ble_eq_true rfl), (Nat.le_of_ble_eq_true rfl)⟩ ⟨(Nat.le_of_ble_eq_true rfl), (Nat.le_of_ble_eq_true rfl)⟩ dX12_strikes_41) hS rfl (fun w4 H locs hQ hP hD hS => ?_)
        have hF := hF.trans hQ.2
        have hB0 : Blk w4 k (cM D α k mTaped mErr mPpl mBts mUs mRa mSt mKi mWd mVal mLet mFin mNp mNb mOuts mWant mFnd mTape mNum mNam mFst mBnm (f_X12_tells (f_X12_sets (L_X12_strikes_7 mW x n) (nI n) 5 3) 4 (nI n) (f_X12_of (f_X12_sets (L_X12_strikes_7 mW x n) (nI n) 5 3) (nI n) 10)) mUn mSl mKp mnNum mnNam mnBo mnBn) := hQ.1
        refine lv_iinc (v := (nI (n + 1))) (lv' := [(3, .int (nI (n + 1))), (2, .int (f_X12_resultNow mPpl mBts mNum mW)), (0, .ref (α (k))), (1, .int x)]) S.1 S.2.1 dX12_strikes_44 hl (k := 0) rfl ((nI_succ n).symm) (by decide) rfl (fun ls hl => ?_)
        refine lv_goto (tgt := 7) S.1 S.2.1 dX12_strikes_47 (by decide) ?_
        have hL : (L_X12_strikes_7 mW x (n + 1)) = (f_X12_tells (f_X12_sets (L_X12_strikes_7 mW x n) (nI n) 5 3) 4 (nI n) (f_X12_of (f_X12_sets (L_X12_strikes_7 mW x n) (nI n) 5 3) (nI n) 10)) := (iter_s _ _ _).trans (if_pos c5)
        refine ih (n + 1) (by omega) _ _ _ _ hP hD hS hF ?_ ?_
        · rw [hL]; exact hB0
        · exact lv_sub hl [0, 1, 2, 3] rfl
  have hL0 : (L_X12_strikes_7 mW x 0) = mW := iter_z _ _
  exact lp7 mPpl.toNatClampNeg 0 (Nat.zero_add _) _ _ _ _ hP hD hS hF (by rw [hL0]; exact hB0) (lv_sub hl [0, 1, 2, 3] rfl)
