
theorem lg_sets {mW : Nat → Int32} {p x v : Int32} (h : vp_in (mW 8) 31) (hp : vp_in p 20) (hx : vp_in x 11) : vp_in (f_X12_sets mW p x v 8) 31 := by
  rw [sets_ne hp hx (Or.inl (by decide))]; exact h
theorem lg_setsB {mW : Nat → Int32} {b x v : Int32} (h : vp_in (mW 8) 31) (hb : vp_in b 6) (hx : vp_in x 3) : vp_in (f_X12_setsBoat mW b x v 8) 31 := by
  rw [setsB_ne hb hx (Or.inl (by decide))]; exact h
theorem lg_upd {mW : Nat → Int32} {i : Nat} {v : Int32} (h : vp_in (mW 8) 31) (hi : 8 ≠ i) : vp_in (upd mW i v 8) 31 := by
  rw [upd_ne hi]; exact h
theorem lg_tells {mW : Nat → Int32} {kd one two : Int32} (h : vp_in (mW 8) 31) : vp_in (f_X12_tells mW kd one two 8) 31 := (tells_9 h).2
def L_X12_comesHome_4 (mW : Nat → Int32) (b : Int32) : Nat → Int32 × (Nat → Int32) := iter_ (fun n sn => (if (f_X12_of (sn.2) (nI n) 1) = b then ((sn.1 + 1), (f_X12_sets (sn.2) (nI n) 1 (-2))) else (sn.1, sn.2))) (0, mW)
def f_X12_comesHome (mPpl : Int32) (mW : Nat → Int32) (b : Int32) : Int32 × (Nat → Int32) := ((L_X12_comesHome_4 mW b mPpl.toNatClampNeg).1, (f_X12_tells (f_X12_setsBoat ((L_X12_comesHome_4 mW b mPpl.toNatClampNeg).2) b 0 0) 1 b ((L_X12_comesHome_4 mW b mPpl.toNatClampNeg).1)))
theorem comesHome_ne {mPpl b : Int32} {mW : Nat → Int32} (h : vp_in mPpl 21) {j : Nat} (hj : j < 9 ∨ 229 ≤ j) : (L_X12_comesHome_4 mW b mPpl.toNatClampNeg).2 j = mW j := by
  have hn := vin_lt h
  refine iter_inv (fun _ (s : Int32 × (Nat → Int32)) => s.2 j = mW j) rfl (fun n s hk hs => ?_) _ (Nat.le_refl _)
  show (ite _ _ _ : Int32 × (Nat → Int32)).2 j = _
  split
  · exact (sets_ne (vp_in_nI (by omega) (by decide)) (vin_d (by decide)) hj).trans hs
  · exact hs
theorem comesHome_lg {mPpl b : Int32} {mW : Nat → Int32} (h : vp_in mPpl 21) (hb : vp_in b 6) (hl : vp_in (mW 8) 31) : vp_in ((f_X12_comesHome mPpl mW b).2 8) 31 := by
  refine lg_tells (lg_setsB ?_ hb (vin_d (by decide)))
  rw [comesHome_ne h (Or.inl (by decide))]
  exact hl
set_option maxHeartbeats 4000000 in
set_option maxRecDepth 100000 in
theorem c_X12_comesHome (l : Launch) (D : va_G) (A : Nat → Prop) (w : va_W) (α : Nat → Nat) (k : Nat) (mTaped : Int32) (mErr : Int32) (mPpl : Int32) (mBts : Int32) (mUs : Int32) (mRa : Int32) (mSt : Int32) (mKi : Int32) (mWd : Int64) (mVal : Int32) (mLet : Int32) (mFin : Int32) (mNp : Int32) (mNb : Int32) (mOuts : Int32) (mWant : Int32) (mFnd : Int32) (mTape : Nat → Int32) (mNum : Nat → Int32) (mNam : Nat → Int32) (mFst : Nat → Int32) (mBnm : Nat → Int32) (mW : Nat → Int32) (mUn : Nat → Int32) (mSl : Nat → Int32) (mKp : Nat → Int32) (mnNum : Nat → Int32) (mnNam : Nat → Int32) (mnBo : Nat → Int32) (mnBn : Nat → Int32) (b : Int32) (hB0 : Blk w k (cM D α k mTaped mErr mPpl mBts mUs mRa mSt mKi mWd mVal mLet mFin mNp mNb mOuts mWant mFnd mTape mNum mNam mFst mBnm mW mUn mSl mKp mnNum mnNam mnBo mnBn)) (hy0 : vp_in mPpl 21) (hy1 : vp_in b 6) (hy2 : vp_in (mW 8) 31) : Met l yX12_comesHome (ws_ yX12_comesHome cX12_comesHome 4 (some .int)) ({ frames := 1, cells := 0, slots := 0, locals := 24 }) (gPre D A [.ref (α (k)), .int b] w) (gQ D A (some (.int (f_X12_comesHome mPpl mW b).1)) (fun w1 => Blk w1 k (cM D α k mTaped mErr mPpl mBts mUs mRa mSt mKi mWd mVal mLet mFin mNp mNb mOuts mWant mFnd mTape mNum mNam mFst mBnm ((f_X12_comesHome mPpl mW b).2) mUn mSl mKp mnNum mnNam mnBo mnBn) ∧ Same w w1 k 14)) 0 0 A := by
  refine g_met [(0, .ref (α (k))), (1, .int b)] (plainFor_of_name (by decide)) (Nat.le_of_ble_eq_true rfl) rfl (fun pg en s mi ar below me co ls S hK hP hD hE hS hr hlk hnm hl => ?_)
  have hF : Same w w k 14 := Same.rf
  have hpn := vin_lt (show vp_in mPpl 21 by assumption)
  refine lv_iconst (v := 0) S.1 S.2.1 dX12_comesHome_0 (by decide) ?_
  refine lv_istore_n (lv' := [(2, .int 0), (0, .ref (α (k))), (1, .int b)]) S.1 S.2.1 dX12_comesHome_1 rfl hl (by decide) rfl (fun ls hl => ?_)
  refine lv_iconst (v := 0) S.1 S.2.1 dX12_comesHome_2 (by decide) ?_
  refine lv_istore_n (lv' := [(3, .int 0), (2, .int 0), (0, .ref (α (k))), (1, .int b)]) S.1 S.2.1 dX12_comesHome_3 rfl hl (by decide) rfl (fun ls hl => ?_)
  have lp4 : ∀ (j n : Nat), n + j = mPpl.toNatClampNeg → ∀ (wl : va_W) (H : Heap) (locs : List Loc) (ls : Array Slot), va_P D vwCl wl H → va_D A wl → va_S A s.heap H locs → Same w wl k 14 → Blk wl k (cM D α k mTaped mErr mPpl mBts mUs mRa mSt mKi mWd mVal mLet mFin mNp mNb mOuts mWant mFnd mTape mNum mNam mFst mBnm ((L_X12_comesHome_4 mW b n).2) mUn mSl mKp mnNum mnNam mnBo mnBn) → lv_has ls 4 [(3, .int (nI n)), (2, .int ((L_X12_comesHome_4 mW b n).1)), (0, .ref (α (k))), (1, .int b)] → W pg l en ({ frames := 1, cells := 0, slots := 0, locals := 24 } : Room) s mi ar below me co H locs 0 0 (MQ below (gQ D A (some (.int (f_X12_comesHome mPpl mW b).1)) (fun w1 => Blk w1 k (cM D α k mTaped mErr mPpl mBts mUs mRa mSt mKi mWd mVal mLet mFin mNp mNb mOuts mWant mFnd mTape mNum mNam mFst mBnm ((f_X12_comesHome mPpl mW b).2) mUn mSl mKp mnNum mnNam mnBo mnBn) ∧ Same w w1 k 14)) ar s 0 0 A) (F0 mi 4 ls []) := by
    intro j
    induction j with
    | zero =>
      intro n hn wl H locs ls hP hD hS hF hB0 hl
      have hn : mPpl.toNatClampNeg = n := hn.symm
      subst hn
      refine lv_iload_n S.1 S.2.1 dX12_comesHome_4 rfl (lv_at hl 0 rfl) ?_
      refine lv_aload_n S.1 S.2.1 dX12_comesHome_5 rfl (lv_at hl 2 rfl) ?_
      refine g_get (v := .int mPpl) S hK hP (hB0 0 _ rfl) rfl inX12 4 (by decide) qw1378 rfl dX12_comesHome_6 ?_
      refine lv_icmp_ge (tgt := 39) S.1 S.2.1 dX12_comesHome_9 (by decide) (fun (c1 : mPpl ≤ (nI mPpl.toNatClampNeg)) => ?_) (fun (c1 : ¬ mPpl ≤ (nI mPpl.toNatClampNeg)) => absurd c1 (lp_out (s := 0) ((Nat.max_eq_left (Nat.zero_le _)).symm)))
      refine lv_aload_n S.1 S.2.1 dX12_comesHome_39 rfl (lv_at hl 2 rfl) ?_
      refine lv_iload_n S.1 S.2.1 dX12_comesHome_40 rfl (lv_at hl 3 rfl) ?_
      refine lv_iconst (v := 0) S.1 S.2.1 dX12_comesHome_41 (by decide) ?_
      refine lv_iconst (v := 0) S.1 S.2.1 dX12_comesHome_42 (by decide) ?_
      refine g_aft0 (st1 := []) (g_V (As := [.int b, .int 0, .int 0]) (rest := []) S mi_X12_setsBoat qw1587 (c_X12_setsBoat l D A wl α (k) mTaped mErr mPpl mBts mUs mRa mSt mKi mWd mVal mLet mFin mNp mNb mOuts mWant mFnd mTape mNum mNam mFst mBnm ((L_X12_comesHome_4 mW b mPpl.toNatClampNeg).2) mUn mSl mKp mnNum mnNam mnBo mnBn b 0 0 hB0 (by first | assumption | exact vin_d (by decide) | exact vp_in_nI (by omega) (by decide) | decide | omega) (by first | assumption | exact vin_d (by decide) | exact vp_in_nI (by omega) (by decide) | decide | omega)) hK hP hD hE hS (hB0 0 _ rfl) rfl rfl rfl hl.1 (Nat.le_of_ble_eq_true rfl) rfl rfl ⟨(Nat.le_of_ble_eq_true rfl), (Nat.le_of_ble_eq_true rfl)⟩ ⟨(Nat.le_of_ble_eq_true rfl), (Nat.le_of_ble_eq_true rfl)⟩ dX12_comesHome_43) hS rfl (fun w1 H locs hQ hP hD hS => ?_)
      have hF := hF.trans hQ.2
      have hB0 : Blk w1 k (cM D α k mTaped mErr mPpl mBts mUs mRa mSt mKi mWd mVal mLet mFin mNp mNb mOuts mWant mFnd mTape mNum mNam mFst mBnm (f_X12_setsBoat ((L_X12_comesHome_4 mW b mPpl.toNatClampNeg).2) b 0 0) mUn mSl mKp mnNum mnNam mnBo mnBn) := hQ.1
      refine lv_aload_n S.1 S.2.1 dX12_comesHome_46 rfl (lv_at hl 2 rfl) ?_
      refine lv_iconst (v := 1) S.1 S.2.1 dX12_comesHome_47 (by decide) ?_
      refine lv_iload_n S.1 S.2.1 dX12_comesHome_48 rfl (lv_at hl 3 rfl) ?_
      refine lv_iload_n S.1 S.2.1 dX12_comesHome_49 rfl (lv_at hl 1 rfl) ?_
      refine g_aft0 (st1 := []) (g_V (As := [.int 1, .int b, .int ((L_X12_comesHome_4 mW b mPpl.toNatClampNeg).1)]) (rest := []) S mi_X12_tells qw1591 (c_X12_tells l D A w1 α (k) mTaped mErr mPpl mBts mUs mRa mSt mKi mWd mVal mLet mFin mNp mNb mOuts mWant mFnd mTape mNum mNam mFst mBnm (f_X12_setsBoat ((L_X12_comesHome_4 mW b mPpl.toNatClampNeg).2) b 0 0) mUn mSl mKp mnNum mnNam mnBo mnBn 1 b ((L_X12_comesHome_4 mW b mPpl.toNatClampNeg).1) hB0 (by exact (lg_setsB (by rw [comesHome_ne hy0 (Or.inl (by decide))]; exact hy2) (by assumption) (vin_d (by decide))))) hK hP hD hE hS (hB0 0 _ rfl) rfl rfl rfl hl.1 (Nat.le_of_ble_eq_true rfl) rfl rfl ⟨(Nat.le_of_ble_eq_true rfl), (Nat.le_of_ble_eq_true rfl)⟩ ⟨(Nat.le_of_ble_eq_true rfl), (Nat.le_of_ble_eq_true rfl)⟩ dX12_comesHome_50) hS rfl (fun w2 H locs hQ hP hD hS => ?_)
      have hF := hF.trans hQ.2
      have hB0 : Blk w2 k (cM D α k mTaped mErr mPpl mBts mUs mRa mSt mKi mWd mVal mLet mFin mNp mNb mOuts mWant mFnd mTape mNum mNam mFst mBnm (f_X12_tells (f_X12_setsBoat ((L_X12_comesHome_4 mW b mPpl.toNatClampNeg).2) b 0 0) 1 b ((L_X12_comesHome_4 mW b mPpl.toNatClampNeg).1)) mUn mSl mKp mnNum mnNam mnBo mnBn) := hQ.1
      refine lv_iload_n S.1 S.2.1 dX12_comesHome_53 rfl (lv_at hl 1 rfl) ?_
      have hf : (f_X12_comesHome mPpl mW b) = ((L_X12_comesHome_4 mW b mPpl.toNatClampNeg).1, (f_X12_tells (f_X12_setsBoat ((L_X12_comesHome_4 mW b mPpl.toNatClampNeg).2) b 0 0) 1 b ((L_X12_comesHome_4 mW b mPpl.toNatClampNeg).1))) := rfl
      exact g_iret S hr hlk hP hD hS (by rw [hf] <;> rfl) (⟨by rw [hf]; exact hB0, hF⟩) dX12_comesHome_54
    | succ j ih =>
      intro n hn wl H locs ls hP hD hS hF hB0 hl
      refine lv_iload_n S.1 S.2.1 dX12_comesHome_4 rfl (lv_at hl 0 rfl) ?_
      refine lv_aload_n S.1 S.2.1 dX12_comesHome_5 rfl (lv_at hl 2 rfl) ?_
      refine g_get (v := .int mPpl) S hK hP (hB0 0 _ rfl) rfl inX12 4 (by decide) qw1378 rfl dX12_comesHome_6 ?_
      refine lv_icmp_ge (tgt := 39) S.1 S.2.1 dX12_comesHome_9 (by decide) (fun (c2 : mPpl ≤ (nI n)) => absurd c2 (lp_in (s := 0) (rfl) hn)) (fun (c2 : ¬ mPpl ≤ (nI n)) => ?_)
      refine lv_aload_n S.1 S.2.1 dX12_comesHome_12 rfl (lv_at hl 2 rfl) ?_
      refine lv_iload_n S.1 S.2.1 dX12_comesHome_13 rfl (lv_at hl 0 rfl) ?_
      refine lv_iconst (v := 1) S.1 S.2.1 dX12_comesHome_14 (by decide) ?_
      refine g_aftR0 (st1 := [.int (f_X12_of ((L_X12_comesHome_4 mW b n).2) (nI n) 1)]) (g_V (As := [.int (nI n), .int 1]) (rest := []) S mi_X12_of qw1579 (c_X12_of l D A wl α (k) mTaped mErr mPpl mBts mUs mRa mSt mKi mWd mVal mLet mFin mNp mNb mOuts mWant mFnd mTape mNum mNam mFst mBnm ((L_X12_comesHome_4 mW b n).2) mUn mSl mKp mnNum mnNam mnBo mnBn (nI n) 1 hB0 (by first | assumption | exact vin_d (by decide) | exact vp_in_nI (by omega) (by decide) | decide | omega) (by first | assumption | exact vin_d (by decide) | exact vp_in_nI (by omega) (by decide) | decide | omega)) hK hP hD hE hS (hB0 0 _ rfl) rfl rfl rfl hl.1 (Nat.le_of_ble_eq_true rfl) rfl rfl ⟨(Nat.le_of_ble_eq_true rfl), (Nat.le_of_ble_eq_true rfl)⟩ ⟨(Nat.le_of_ble_eq_true rfl), (Nat.le_of_ble_eq_true rfl)⟩ dX12_comesHome_15) hS rfl (fun locs hS => ?_)
      refine lv_iload_n S.1 S.2.1 dX12_comesHome_18 rfl (lv_at hl 3 rfl) ?_
      refine lv_icmp_ne (tgt := 33) S.1 S.2.1 dX12_comesHome_19 (by decide) (fun (c3 : ¬ (f_X12_of ((L_X12_comesHome_4 mW b n).2) (nI n) 1) = b) => ?_) (fun (c3 : (f_X12_of ((L_X12_comesHome_4 mW b n).2) (nI n) 1) = b) => ?_)
      · refine lv_iinc (v := (nI (n + 1))) (lv' := [(3, .int (nI (n + 1))), (2, .int ((L_X12_comesHome_4 mW b n).1)), (0, .ref (α (k))), (1, .int b)]) S.1 S.2.1 dX12_comesHome_33 hl (k := 0) rfl ((nI_succ n).symm) (by decide) rfl (fun ls hl => ?_)
        refine lv_goto (tgt := 4) S.1 S.2.1 dX12_comesHome_36 (by decide) ?_
        have hL : (L_X12_comesHome_4 mW b (n + 1)) = ((L_X12_comesHome_4 mW b n).1, (L_X12_comesHome_4 mW b n).2) := (iter_s _ _ _).trans (if_neg c3)
        refine ih (n + 1) (by omega) _ _ _ _ hP hD hS hF ?_ ?_
        · rw [hL]; exact hB0
        · rw [hL]; exact lv_sub hl [0, 1, 2, 3] rfl
      · refine lv_aload_n S.1 S.2.1 dX12_comesHome_22 rfl (lv_at hl 2 rfl) ?_
        refine lv_iload_n S.1 S.2.1 dX12_comesHome_23 rfl (lv_at hl 0 rfl) ?_
        refine lv_iconst (v := 1) S.1 S.2.1 dX12_comesHome_24 (by decide) ?_
        refine lv_bipush (v := (-2)) S.1 S.2.1 dX12_comesHome_25 (by decide) ?_
        refine g_aft0 (st1 := []) (g_V (As := [.int (nI n), .int 1, .int (-2)]) (rest := []) S mi_X12_sets qw1362 (c_X12_sets l D A wl α (k) mTaped mErr mPpl mBts mUs mRa mSt mKi mWd mVal mLet mFin mNp mNb mOuts mWant mFnd mTape mNum mNam mFst mBnm ((L_X12_comesHome_4 mW b n).2) mUn mSl mKp mnNum mnNam mnBo mnBn (nI n) 1 (-2) hB0 (by first | assumption | exact vin_d (by decide) | exact vp_in_nI (by omega) (by decide) | decide | omega) (by first | assumption | exact vin_d (by decide) | exact vp_in_nI (by omega) (by decide) | decide | omega)) hK hP hD hE hS (hB0 0 _ rfl) rfl rfl rfl hl.1 (Nat.le_of_ble_eq_true rfl) rfl rfl ⟨(Nat.le_of_ble_eq_true rfl), (Nat.le_of_ble_eq_true rfl)⟩ ⟨(Nat.le_of_ble_eq_true rfl), (Nat.le_of_ble_eq_true rfl)⟩ dX12_comesHome_27) hS rfl (fun w3 H locs hQ hP hD hS => ?_)
        have hF := hF.trans hQ.2
        have hB0 : Blk w3 k (cM D α k mTaped mErr mPpl mBts mUs mRa mSt mKi mWd mVal mLet mFin mNp mNb mOuts mWant mFnd mTape mNum mNam mFst mBnm (f_X12_sets ((L_X12_comesHome_4 mW b n).2) (nI n) 1 (-2)) mUn mSl mKp mnNum mnNam mnBo mnBn) := hQ.1
        refine lv_iinc (v := ((L_X12_comesHome_4 mW b n).1 + 1)) (lv' := [(2, .int ((L_X12_comesHome_4 mW b n).1 + 1)), (3, .int (nI n)), (0, .ref (α (k))), (1, .int b)]) S.1 S.2.1 dX12_comesHome_30 hl (k := 1) rfl (rfl) (by decide) rfl (fun ls hl => ?_)
        refine lv_iinc (v := (nI (n + 1))) (lv' := [(3, .int (nI (n + 1))), (2, .int ((L_X12_comesHome_4 mW b n).1 + 1)), (0, .ref (α (k))), (1, .int b)]) S.1 S.2.1 dX12_comesHome_33 hl (k := 1) rfl ((nI_succ n).symm) (by decide) rfl (fun ls hl => ?_)
        refine lv_goto (tgt := 4) S.1 S.2.1 dX12_comesHome_36 (by decide) ?_
        have hL : (L_X12_comesHome_4 mW b (n + 1)) = (((L_X12_comesHome_4 mW b n).1 + 1), (f_X12_sets ((L_X12_comesHome_4 mW b n).2) (nI n) 1 (-2))) := (iter_s _ _ _).trans (if_pos c3)
        refine ih (n + 1) (by omega) _ _ _ _ hP hD hS hF ?_ ?_
        · rw [hL]; exact hB0
        · rw [hL]; exact lv_sub hl [0, 1, 2, 3] rfl
  have hL0 : (L_X12_comesHome_4 mW b 0) = (0, mW) := iter_z _ _
  exact lp4 mPpl.toNatClampNeg 0 (Nat.zero_add _) _ _ _ _ hP hD hS hF (by rw [hL0]; exact hB0) (by rw [hL0]; exact lv_sub hl [0, 1, 2, 3] rfl)
