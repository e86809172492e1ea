
theorem lg_sets {mW : Nat → Int32} {p x v : Int32} (h : vp_in (mW 8) 31) (hp : vp_in p 20) (hx : vp_in x 11) : vp_in (f_X12_sets mW p x v 8) 31 := by
  rw [sets_ne hp hx (Or.inl (by decide))]; exact h
theorem lg_setsB {mW : Nat → Int32} {b x v : Int32} (h : vp_in (mW 8) 31) (hb : vp_in b 6) (hx : vp_in x 3) : vp_in (f_X12_setsBoat mW b x v 8) 31 := by
  rw [setsB_ne hb hx (Or.inl (by decide))]; exact h
theorem lg_upd {mW : Nat → Int32} {i : Nat} {v : Int32} (h : vp_in (mW 8) 31) (hi : 8 ≠ i) : vp_in (upd mW i v 8) 31 := by
  rw [upd_ne hi]; exact h
theorem lg_tells {mW : Nat → Int32} {kd one two : Int32} (h : vp_in (mW 8) 31) : vp_in (f_X12_tells mW kd one two 8) 31 := (tells_9 h).2
def L_X12_comesHome_4 (mW : Nat → Int32) (b : Int32) : Nat → Int32 × (Nat → Int32) := iter_ (fun n sn => (if (f_X12_of (sn.2) (nI n) 1) = b then ((sn.1 + 1), (f_X12_sets (sn.2) (nI n) 1 (-2))) else (sn.1, sn.2))) (0, mW)
def f_X12_comesHome (mPpl : Int32) (mW : Nat → Int32) (b : Int32) : Int32 × (Nat → Int32) := ((L_X12_comesHome_4 mW b mPpl.toNatClampNeg).1, (f_X12_tells (f_X12_setsBoat ((L_X12_comesHome_4 mW b mPpl.toNatClampNeg).2) b 0 0) 1 b ((L_X12_comesHome_4 mW b mPpl.toNatClampNeg).1)))
theorem comesHome_ne {mPpl b : Int32} {mW : Nat → Int32} (h : vp_in mPpl 21) {j : Nat} (hj : j < 9 ∨ 229 ≤ j) : (L_X12_comesHome_4 mW b mPpl.toNatClampNeg).2 j = mW j := by
  have hn := vin_lt h
  refine iter_inv (fun _ (s : Int32 × (Nat → Int32)) => s.2 j = mW j) rfl (fun n s hk hs => ?_) _ (Nat.le_refl _)
  show (ite _ _ _ : Int32 × (Nat → Int32)).2 j = _
  split
  · exact (sets_ne (vp_in_nI (by omega) (by decide)) (vin_d (by decide)) hj).trans hs
  · exact hs
theorem comesHome_lg {mPpl b : Int32} {mW : Nat → Int32} (h : vp_in mPpl 21) (hb : vp_in b 6) (hl : vp_in (mW 8) 31) : vp_in ((f_X12_comesHome mPpl mW b).2 8) 31 := by
  refine lg_tells (lg_setsB ?_ hb (vin_d (by decide)))
  rw [comesHome_ne h (Or.inl (by decide))]
  exact hl
set_option maxHeartbeats 4000000 in
set_option maxRecDepth 100000 in
theorem c_X12_comesHome (l : Launch) (D : va_G) (A : Nat → Prop) (w : va_W) (α : Nat → Nat) (k : Nat) (mTaped : Int32) (mErr : Int32) (mPpl : Int32) (mBts : Int32) (mUs : Int32) (mRa : Int32) (mSt : Int32) (mKi : Int32) (mWd : Int64) (mVal : Int32) (mLet : Int32) (mFin : Int32) (mNp : Int32) (mNb : Int32) (mOuts : Int32) (mWant : Int32) (mFnd : Int32) (mTape : Nat → Int32) (mNum : Nat → Int32) (mNam : Nat → Int32) (mFst : Nat → Int32) (mBnm : Nat → Int32) (mW : Nat → Int32) (mUn : Nat → Int32) (mSl : Nat → Int32) (mKp : Nat → Int32) (mnNum : Nat → Int32) (mnNam : Nat → Int32) (mnBo : Nat → Int32) (mnBn : Nat → Int32) (b : Int32) (hB0 : Blk w k (cM D α k mTaped mErr mPpl mBts mUs mRa mSt mKi mWd mVal mLet mFin mNp mNb mOuts mWant mFnd mTape mNum mNam mFst mBnm mW mUn mSl mKp mnNum mnNam mnBo mnBn)) (hy0 : vp_in mPpl 21) (hy1 : vp_in b 6) (hy2 : vp_in (mW 8) 31) : Met l yX12_comesHome (ws_ yX12_comesHome cX12_comesHome 4 (some .int)) ({ frames := 1, cells := 0, slots := 0, locals := 24 }) (gPre D A [.ref (α (k)), .int b] w) (gQ D A (some (.int (f_X12_comesHome mPpl mW b).1)) (fun w1 => Blk w1 k (cM D α k mTaped mErr mPpl mBts mUs mRa mSt mKi mWd mVal mLet mFin mNp mNb mOuts mWant mFnd mTape mNum mNam mFst mBnm ((f_X12_comesHome mPpl mW b).2) mUn mSl mKp mnNum mnNam mnBo mnBn) ∧ Same w w1 k 14)) 0 0 A := by
  refine g_met [(0, .ref (α (k))), (1, .int b)] (plainFor_of_name (by decide)) (Nat.le_of_ble_eq_true rfl) rfl (fun pg en s mi ar below me co ls S hK hP hD hE hS hr hlk hnm hl => ?_)
  have hF : Same w w k 14 := Same.rf
  have hpn := vin_lt (show vp_in mPpl 21 by assumption)
  refine lv_iconst (v := 0) S.1 S.2.1 dX12_comesHome_0 (by decide) ?_
  refine lv_istore_n (lv' := [(2, .int 0), (0, .ref (α (k))), (1, .int b)]) S.1 S.2.1 dX12_comesHome_1 rfl hl (by decide) rfl (fun ls hl => ?_)
  refine lv_iconst (v := 0) S.1 S.2.1 dX12_comesHome_2 (by decide) ?_
  refine lv_istore_n (lv' := [(3, .int 0), (2, .int 0), (0, .ref (α (k))), (1, .int b)]) S.1 S.2.1 dX12_comesHome_3 rfl hl (by decide) rfl (fun ls hl => ?_)
  have lp4 : ∀ (j n : Nat), n + j = mPpl.toNatClampNeg → ∀ (wl : va_W) (H : Heap) (locs : List Loc) (ls : Array Slot), va_P D vwCl wl H → va_D A wl → va_S A s.heap H locs → Same w wl k 14 → Blk wl k (cM D α k mTaped mErr mPpl mBts mUs mRa mSt mKi mWd mVal mLet mFin mNp mNb mOuts mWant mFnd mTape mNum mNam mFst mBnm ((L_X12_comesHome_4 mW b n).2) mUn mSl mKp mnNum mnNam mnBo mnBn) → lv_has ls 4 [(3, .int (nI n)), (2, .int ((L_X12_comesHome_4 mW b n).1)), (0, .ref (α (k))), (1, .int b)] → W pg l en ({ frames := 1, cells := 0, slots := 0, locals := 24 } : Room) s mi ar below me co H locs 0 0 (MQ below (gQ D A (some (.int (f_X12_comesHome mPpl mW b).1)) (fun w1 => Blk w1 k (cM D α k mTaped mErr mPpl mBts mUs mRa mSt mKi mWd mVal mLet mFin mNp mNb mOuts mWant mFnd mTape mNum mNam mFst mBnm ((f_X12_comesHome mPpl mW b).2) mUn mSl mKp mnNum mnNam mnBo mnBn) ∧ Same w w1 k 14)) ar s 0 0 A) (F0 mi 4 ls []) := by
    intro j
    induction j with
    | zero =>
      intro n hn wl H locs ls hP hD hS hF hB0 hl
      have hn : mPpl.toNatClampNeg = n := hn.symm
      subst hn
      refine lv_iload_n S.1 S.2.1 dX12_comesHome_4 rfl (lv_at hl 0 rfl) ?_
      refine lv_aload_n S.1 S.2.1 dX12_comesHome_5 rfl (lv_at hl 2 rfl) ?_
      refine g_get (v := .int mPpl) S hK hP (hB0 0 _ rfl) rfl inX12 4 (by decide) qw1378 rfl dX12_comesHome_6 ?_
      refine lv_icmp_ge (tgt := 39) S.1 S.2.1 dX12_comesHome_9 (by decide) (fun (c1 : mPpl ≤ (nI mPpl.toNatClampNeg)) => ?_) (fun (c1 : ¬ mPpl ≤ (nI mPpl.toNatClampNeg)) => absurd c1 (lp_out (s := 0) ((Nat.max_eq_left (Nat.zero_le _)).symm)))
      refine lv_aload_n S.1 S.2.1 dX12_comesHome_39 rfl (lv_at hl 2 rfl) ?_
      refine lv_iload_n S.1 S.2.1 dX12_comesHome_40 rfl (lv_at hl 3 rfl) ?_
      refine lv_iconst (v := 0) S.1 S.2.1 dX12_comesHome_41 (by decide) ?_
      refine lv_iconst (v := 0) S.1 S.2.1 dX12_comesHome_42 (by decide) ?_
      refine g_aft0 (st1 := []) (g_V (As := [.int b, .int 0, .int 0]) (rest := []) S mi_X12_setsBoat qw1587 (c_X12_setsBoat l D A wl α (k) mTaped mErr mPpl mBts mUs mRa mSt mKi mWd mVal mLet mFin mNp mNb mOuts mWant mFnd mTape mNum mNam mFst mBnm ((L_X12_comesHome_4 mW b mPpl.toNatClampNeg).2) mUn mSl mKp mnNum mnNam mnBo mnBn b 0 0 hB0 (by first | assumption | exact vin_d (by decide) | exact vp_in_nI (by omega) (by decide) | decide | omega) (by first | assumption | exact vin_d (by decide) | exact vp_in_nI (by omega) (by decide) | decide | omega)) hK hP hD hE hS (hB0 0 _ rfl) rfl rfl rfl hl.1 (Nat.le_of_ble_eq_true rfl) rfl rfl ⟨(Nat.le_of_ble_eq_true rfl), (Nat.le_of_ble_eq_true rfl)⟩ ⟨(Nat.le_of_ble_eq_true rfl), (Nat.le_of_ble_eq_true rfl)⟩ dX12_comesHome_43) hS rfl (fun w1 H locs hQ hP hD hS => ?_)
      have hF := hF.trans hQ.2
      have hB0 : Blk w1 k (cM D α k mTaped mErr mPpl mBts mUs mRa mSt mKi mWd mVal mLet mFin mNp mNb mOuts mWant mFnd mTape mNum mNam mFst mBnm (f_X12_setsBoat ((L_X12_comesHome_4 mW b mPpl.toNatClampNeg).2) b 0 0) mUn mSl mKp mnNum mnNam mnBo mnBn) := hQ.1
      refine lv_aload_n S.1 S.2.1 dX12_comesHome_46 rfl (lv_at hl 2 rfl) ?_
      refine lv_iconst (v := 1) S.1 S.2.1 dX12_comesHome_47 (by decide) ?_
      refine lv_iload_n S.1 S.2.1 dX12_comesHome_48 rfl (lv_at hl 3 rfl) ?_
      refine lv_iload_n S.1 S.2.1 dX12_comesHome_49 rfl (lv_at hl 1 rfl) ?_
      refine g_aft0 (st1 := []) (g_V (As := [.int 1, .int b, .int ((L_X12_comesHome_4 mW b mPpl.toNatClampNeg).1)]) (rest := []) S mi_X12_tells qw1591 (c_X12_tells l D A w1 α (k) mTaped mErr mPpl mBts mUs mRa mSt mKi mWd mVal mLet mFin mNp mNb mOuts mWant mFnd mTape mNum mNam mFst mBnm (f_X12_setsBoat ((L_X12_comesHome_4 mW b mPpl.toNatClampNeg).2) b 0 0) mUn mSl mKp mnNum mnNam mnBo mnBn 1 b ((L_X12_comesHome_4 mW b mPpl.toNatClampNeg).1) hB0 (by repeat (first | assumption | refine lg_sets ?_ (by first | assumption | exact vp_in_nI (by omega) (by decide)) (vin_d (by decide)) | refine lg_setsB ?_ (by first | assumption | exact vp_in_nI (by omega) (by decide)) (vin_d (by decide)) | refine lg_upd ?_ (by decide) | refine lg_tells ?_ | (rw [comesHome_ne hy0 (Or.inl (by decide))])))) hK hP hD hE hS (hB0 0 _ rfl) rfl rfl rfl hl.1 (Nat.le_of_ble_eq_true rfl) rfl rfl ⟨(Nat.le_of_ble_eq_true rfl), (Nat.le_of_ble_eq_true rfl)⟩ ⟨(Nat.le_of_ble_eq_true rfl), (Nat.le_of_ble_eq_true rfl)⟩ dX12_comesHome_50) hS rfl (fun w2 H locs hQ hP hD hS => ?_)
      have hF := hF.trans hQ.2
      have hB0 : Blk w2 k (cM D α k mTaped mErr mPpl mBts mUs mRa mSt mKi mWd mVal mLet mFin mNp mNb mOuts mWant mFnd mTape mNum mNam mFst mBnm (f_X12_tells (f_X12_setsBoat ((L_X12_comesHome_4 mW b mPpl.toNatClampNeg).2) b 0 0) 1 b ((L_X12_comesHome_4 mW b mPpl.toNatClampNeg).1)) mUn mSl mKp mnNum mnNam mnBo mnBn) := hQ.1
      refine lv_iload_n S.1 S.2.1 dX12_comesHome_53 rfl (lv_at hl 1 rfl) ?_
      have hf : (f_X12_comesHome mPpl mW b) = ((L_X12_comesHome_4 mW b mPpl.toNatClampNeg).1, (f_X12_tells (f_X12_setsBoat ((L_X12_comesHome_4 mW b mPpl.toNatClampNeg).2) b 0 0) 1 b ((L_X12_comesHome_4 mW b mPpl.toNatClampNeg).1))) := rfl
      exact g_iret S hr hlk hP hD hS (by rw [hf] <;> rfl) (⟨by rw [hf]; exact hB0, hF⟩) dX12_comesHome_54
    | succ j ih =>
      intro n hn wl H locs ls hP hD hS hF hB0 hl
      refine lv_iload_n S.1 S.2.1 dX12_comesHome_4 rfl (lv_at hl 0 rfl) ?_
      refine lv_aload_n S.1 S.2.1 dX12_comesHome_5 rfl (lv_at hl 2 rfl) ?_
      refine g_get (v := .int mPpl) S hK hP (hB0 0 _ rfl) rfl inX12 4 (by decide) qw1378 rfl dX12_comesHome_6 ?_
      refine lv_icmp_ge (tgt := 39) S.1 S.2.1 dX12_comesHome_9 (by decide) (fun (c2 : mPpl ≤ (nI n)) => absurd c2 (lp_in (s := 0) (rfl) hn)) (fun (c2 : ¬ mPpl ≤ (nI n)) => ?_)
      refine lv_aload_n S.1 S.2.1 dX12_comesHome_12 rfl (lv_at hl 2 rfl) ?_
      refine lv_iload_n S.1 S.2.1 dX12_comesHome_13 rfl (lv_at hl 0 rfl) ?_
      refine lv_iconst (v := 1) S.1 S.2.1 dX12_comesHome_14 (by decide) ?_
      refine g_aftR0 (st1 := [.int (f_X12_of ((L_X12_comesHome_4 mW b n).2) (nI n) 1)]) (g_V (As := [.int (nI n), .int 1]) (rest := []) S mi_X12_of qw1579 (c_X12_of l D A wl α (k) mTaped mErr mPpl mBts mUs mRa mSt mKi mWd mVal mLet mFin mNp mNb mOuts mWant mFnd mTape mNum mNam mFst mBnm ((L_X12_comesHome_4 mW b n).2) mUn mSl mKp mnNum mnNam mnBo mnBn (nI n) 1 hB0 (by first | assumption | exact vin_d (by decide) | exact vp_in_nI (by omega) (by decide) | decide | omega) (by first | assumption | exact vin_d (by decide) | exact vp_in_nI (by omega) (by decide) | decide | omega)) hK hP hD hE hS (hB0 0 _ rfl) rfl rfl rfl hl.1 (Nat.le_of_ble_eq_true rfl) rfl rfl ⟨(Nat.le_of_ble_eq_true rfl), (Nat.le_of_ble_eq_true rfl)⟩ ⟨(Nat.le_of_ble_eq_true rfl), (Nat.le_of_ble_eq_true rfl)⟩ dX12_comesHome_15) hS rfl (fun locs hS => ?_)
      refine lv_iload_n S.1 S.2.1 dX12_comesHome_18 rfl (lv_at hl 3 rfl) ?_
      refine lv_icmp_ne (tgt := 33) S.1 S.2.1 dX12_comesHome_19 (by decide) (fun (c3 : ¬ (f_X12_of ((L_X12_comesHome_4 mW b n).2) (nI n) 1) = b) => ?_) (fun (c3 : (f_X12_of ((L_X12_comesHome_4 mW b n).2) (nI n) 1) = b) => ?_)
      · refine lv_iinc (v := (nI (n + 1))) (lv' := [(3, .int (nI (n + 1))), (2, .int ((L_X12_comesHome_4 mW b n).1)), (0, .ref (α (k))), (1, .int b)]) S.1 S.2.1 dX12_comesHome_33 hl (k := 0) rfl ((nI_succ n).symm) (by decide) rfl (fun ls hl => ?_)
        refine lv_goto (tgt := 4) S.1 S.2.1 dX12_comesHome_36 (by decide) ?_
        have hL : (L_X12_comesHome_4 mW b (n + 1)) = ((L_X12_comesHome_4 mW b n).1, (L_X12_comesHome_4 mW b n).2) := (iter_s _ _ _).trans (if_neg c3)
        refine ih (n + 1) (by omega) _ _ _ _ hP hD hS hF ?_ ?_
        · rw [hL]; exact hB0
        · rw [hL]; exact lv_sub hl [0, 1, 2, 3] rfl
      · refine lv_aload_n S.1 S.2.1 dX12_comesHome_22 rfl (lv_at hl 2 rfl) ?_
        refine lv_iload_n S.1 S.2.1 dX12_comesHome_23 rfl (lv_at hl 0 rfl) ?_
        refine lv_iconst (v := 1) S.1 S.2.1 dX12_comesHome_24 (by decide) ?_
        refine lv_bipush (v := (-2)) S.1 S.2.1 dX12_comesHome_25 (by decide) ?_
        refine g_aft0 (st1 := []) (g_V (As := [.int (nI n), .int 1, .int (-2)]) (rest := []) S mi_X12_sets qw1362 (c_X12_sets l D A wl α (k) mTaped mErr mPpl mBts mUs mRa mSt mKi mWd mVal mLet mFin mNp mNb mOuts mWant mFnd mTape mNum mNam mFst mBnm ((L_X12_comesHome_4 mW b n).2) mUn mSl mKp mnNum mnNam mnBo mnBn (nI n) 1 (-2) hB0 (by first | assumption | exact vin_d (by decide) | exact vp_in_nI (by omega) (by decide) | decide | omega) (by first | assumption | exact vin_d (by decide) | exact vp_in_nI (by omega) (by decide) | decide | omega)) hK hP hD hE hS (hB0 0 _ rfl) rfl rfl rfl hl.1 (Nat.le_of_ble_eq_true rfl) rfl rfl ⟨(Nat.le_of_ble_eq_true rfl), (Nat.le_of_ble_eq_true rfl)⟩ ⟨(Nat.le_of_ble_eq_true rfl), (Nat.le_of_ble_eq_true rfl)⟩ dX12_comesHome_27) hS rfl (fun w3 H locs hQ hP hD hS => ?_)
        have hF := hF.trans hQ.2
        have hB0 : Blk w3 k (cM D α k mTaped mErr mPpl mBts mUs mRa mSt mKi mWd mVal mLet mFin mNp mNb mOuts mWant mFnd mTape mNum mNam mFst mBnm (f_X12_sets ((L_X12_comesHome_4 mW b n).2) (nI n) 1 (-2)) mUn mSl mKp mnNum mnNam mnBo mnBn) := hQ.1
        refine lv_iinc (v := ((L_X12_comesHome_4 mW b n).1 + 1)) (lv' := [(2, .int ((L_X12_comesHome_4 mW b n).1 + 1)), (3, .int (nI n)), (0, .ref (α (k))), (1, .int b)]) S.1 S.2.1 dX12_comesHome_30 hl (k := 1) rfl (rfl) (by decide) rfl (fun ls hl => ?_)
        refine lv_iinc (v := (nI (n + 1))) (lv' := [(3, .int (nI (n + 1))), (2, .int ((L_X12_comesHome_4 mW b n).1 + 1)), (0, .ref (α (k))), (1, .int b)]) S.1 S.2.1 dX12_comesHome_33 hl (k := 1) rfl ((nI_succ n).symm) (by decide) rfl (fun ls hl => ?_)
        refine lv_goto (tgt := 4) S.1 S.2.1 dX12_comesHome_36 (by decide) ?_
        have hL : (L_X12_comesHome_4 mW b (n + 1)) = (((L_X12_comesHome_4 mW b n).1 + 1), (f_X12_sets ((L_X12_comesHome_4 mW b n).2) (nI n) 1 (-2))) := (iter_s _ _ _).trans (if_pos c3)
        refine ih (n + 1) (by omega) _ _ _ _ hP hD hS hF ?_ ?_
        · rw [hL]; exact hB0
        · rw [hL]; exact lv_sub hl [0, 1, 2, 3] rfl
  have hL0 : (L_X12_comesHome_4 mW b 0) = (0, mW) := iter_z _ _
  exact lp4 mPpl.toNatClampNeg 0 (Nat.zero_add _) _ _ _ _ hP hD hS hF (by rw [hL0]; exact hB0) (by rw [hL0]; exact lv_sub hl [0, 1, 2, 3] rfl)
def f_X12_comeHome (mPpl : Int32) (mBts : Int32) (mUs : Int32) (mW : Nat → Int32) (mUn : Nat → Int32) (b : Int32) : Int32 × (Nat → Int32) × Int32 × (Nat → Int32) := (bif (f_X12_isBoat mBts b) then (bif (f_X12_isOut mW b) then ((f_X12_comesHome mPpl mW b).1, (f_X12_keeps mUs mW mUn).1, (f_X12_keeps mUs mW mUn).2, (f_X12_comesHome mPpl mW b).2) else ((-4), mUn, mUs, mW)) else ((-1), mUn, mUs, mW))
set_option maxHeartbeats 4000000 in
set_option maxRecDepth 100000 in
theorem c_X12_comeHome (l : Launch) (D : va_G) (A : Nat → Prop) (w : va_W) (α : Nat → Nat) (k : Nat) (mTaped : Int32) (mErr : Int32) (mPpl : Int32) (mBts : Int32) (mUs : Int32) (mRa : Int32) (mSt : Int32) (mKi : Int32) (mWd : Int64) (mVal : Int32) (mLet : Int32) (mFin : Int32) (mNp : Int32) (mNb : Int32) (mOuts : Int32) (mWant : Int32) (mFnd : Int32) (mTape : Nat → Int32) (mNum : Nat → Int32) (mNam : Nat → Int32) (mFst : Nat → Int32) (mBnm : Nat → Int32) (mW : Nat → Int32) (mUn : Nat → Int32) (mSl : Nat → Int32) (mKp : Nat → Int32) (mnNum : Nat → Int32) (mnNam : Nat → Int32) (mnBo : Nat → Int32) (mnBn : Nat → Int32) (b : Int32) (hB0 : Blk w k (cM D α k mTaped mErr mPpl mBts mUs mRa mSt mKi mWd mVal mLet mFin mNp mNb mOuts mWant mFnd mTape mNum mNam mFst mBnm mW mUn mSl mKp mnNum mnNam mnBo mnBn)) (hy0 : vp_in mUs 9) (hy1 : vp_in mPpl 21) (hy2 : vp_in mBts 7) (hy3 : vp_in (mW 8) 31) : Met l yX12_comeHome (ws_ yX12_comeHome cX12_comeHome 2 (some .int)) ({ frames := 2, cells := 0, slots := 0, locals := 47 }) (gPre D A [.ref (α (k)), .int b] w) (gQ D A (some (.int (f_X12_comeHome mPpl mBts mUs mW mUn b).1)) (fun w1 => Blk w1 k (cM D α k mTaped mErr mPpl mBts ((f_X12_comeHome mPpl mBts mUs mW mUn b).2.2.1) mRa mSt mKi mWd mVal mLet mFin mNp mNb mOuts mWant mFnd mTape mNum mNam mFst mBnm ((f_X12_comeHome mPpl mBts mUs mW mUn b).2.2.2) ((f_X12_comeHome mPpl mBts mUs mW mUn b).2.1) mSl mKp mnNum mnNam mnBo mnBn) ∧ Same w w1 k 14)) 0 0 A := by
  refine g_met [(0, .ref (α (k))), (1, .int b)] (plainFor_of_name (by decide)) (Nat.le_of_ble_eq_true rfl) rfl (fun pg en s mi ar below me co ls S hK hP hD hE hS hr hlk hnm hl => ?_)
  have hF : Same w w k 14 := Same.rf
  refine lv_aload_n S.1 S.2.1 dX12_comeHome_0 rfl (lv_at hl 0 rfl) ?_
  refine lv_iload_n S.1 S.2.1 dX12_comeHome_1 rfl (lv_at hl 1 rfl) ?_
  refine g_aftR0 (st1 := [.int (b2i (f_X12_isBoat mBts b))]) (g_V (As := [.int b]) (rest := []) S mi_X12_isBoat qw1562 (c_X12_isBoat l D A w α (k) mTaped mErr mPpl mBts mUs mRa mSt mKi mWd mVal mLet mFin mNp mNb mOuts mWant mFnd mTape mNum mNam mFst mBnm mW mUn mSl mKp mnNum mnNam mnBo mnBn b hB0) hK hP hD hE hS (hB0 0 _ rfl) rfl rfl rfl hl.1 (Nat.le_of_ble_eq_true rfl) rfl rfl ⟨(Nat.le_of_ble_eq_true rfl), (Nat.le_of_ble_eq_true rfl)⟩ ⟨(Nat.le_of_ble_eq_true rfl), (Nat.le_of_ble_eq_true rfl)⟩ dX12_comeHome_2) hS rfl (fun locs hS => ?_)
  refine g_bifne (b := (f_X12_isBoat mBts b)) (tgt := 10) S dX12_comeHome_5 (by decide) (fun (c1 : (f_X12_isBoat mBts b) = true) => ?_) (fun (c1 : (f_X12_isBoat mBts b) = false) => ?_)
  · have hh1 := isBoat_in (by assumption) c1
    refine lv_aload_n S.1 S.2.1 dX12_comeHome_10 rfl (lv_at hl 0 rfl) ?_
    refine lv_iload_n S.1 S.2.1 dX12_comeHome_11 rfl (lv_at hl 1 rfl) ?_
    refine g_aftR0 (st1 := [.int (b2i (f_X12_isOut mW b))]) (g_V (As := [.int b]) (rest := []) S mi_X12_isOut qw1567 (c_X12_isOut l D A w α (k) mTaped mErr mPpl mBts mUs mRa mSt mKi mWd mVal mLet mFin mNp mNb mOuts mWant mFnd mTape mNum mNam mFst mBnm mW mUn mSl mKp mnNum mnNam mnBo mnBn b hB0 (by first | assumption | exact vin_d (by decide) | exact vp_in_nI (by omega) (by decide) | decide | omega)) hK hP hD hE hS (hB0 0 _ rfl) rfl rfl rfl hl.1 (Nat.le_of_ble_eq_true rfl) rfl rfl ⟨(Nat.le_of_ble_eq_true rfl), (Nat.le_of_ble_eq_true rfl)⟩ ⟨(Nat.le_of_ble_eq_true rfl), (Nat.le_of_ble_eq_true rfl)⟩ dX12_comeHome_12) hS rfl (fun locs hS => ?_)
    refine g_bifne (b := (f_X12_isOut mW b)) (tgt := 21) S dX12_comeHome_15 (by decide) (fun (c2 : (f_X12_isOut mW b) = true) => ?_) (fun (c2 : (f_X12_isOut mW b) = false) => ?_)
    · refine lv_aload_n S.1 S.2.1 dX12_comeHome_21 rfl (lv_at hl 0 rfl) ?_
      refine g_aft0 (st1 := []) (g_V (As := []) (rest := []) S mi_X12_keeps qw1575 (c_X12_keeps l D A w α (k) mTaped mErr mPpl mBts mUs mRa mSt mKi mWd mVal mLet mFin mNp mNb mOuts mWant mFnd mTape mNum mNam mFst mBnm mW mUn mSl mKp mnNum mnNam mnBo mnBn hB0 (by first | assumption | exact vin_d (by decide) | exact vp_in_nI (by omega) (by decide) | decide | omega)) hK hP hD hE hS (hB0 0 _ rfl) rfl rfl rfl hl.1 (Nat.le_of_ble_eq_true rfl) rfl rfl ⟨(Nat.le_of_ble_eq_true rfl), (Nat.le_of_ble_eq_true rfl)⟩ ⟨(Nat.le_of_ble_eq_true rfl), (Nat.le_of_ble_eq_true rfl)⟩ dX12_comeHome_22) hS rfl (fun w1 H locs hQ hP hD hS => ?_)
      have hF := hF.trans hQ.2
      have hB0 : Blk w1 k (cM D α k mTaped mErr mPpl mBts ((f_X12_keeps mUs mW mUn).2) mRa mSt mKi mWd mVal mLet mFin mNp mNb mOuts mWant mFnd mTape mNum mNam mFst mBnm mW ((f_X12_keeps mUs mW mUn).1) mSl mKp mnNum mnNam mnBo mnBn) := hQ.1
      refine lv_aload_n S.1 S.2.1 dX12_comeHome_25 rfl (lv_at hl 0 rfl) ?_
      refine lv_iload_n S.1 S.2.1 dX12_comeHome_26 rfl (lv_at hl 1 rfl) ?_
      refine g_aft0 (st1 := [.int ((f_X12_comesHome mPpl mW b).1)]) (g_V (As := [.int b]) (rest := []) S mi_X12_comesHome qw1603 (c_X12_comesHome l D A w1 α (k) mTaped mErr mPpl mBts ((f_X12_keeps mUs mW mUn).2) mRa mSt mKi mWd mVal mLet mFin mNp mNb mOuts mWant mFnd mTape mNum mNam mFst mBnm mW ((f_X12_keeps mUs mW mUn).1) mSl mKp mnNum mnNam mnBo mnBn b hB0 (by first | assumption | exact vin_d (by decide) | exact vp_in_nI (by omega) (by decide) | decide | omega) (by first | assumption | exact vin_d (by decide) | exact vp_in_nI (by omega) (by decide) | decide | omega) (by first | assumption | exact vin_d (by decide) | exact vp_in_nI (by omega) (by decide) | decide | omega)) hK hP hD hE hS (hB0 0 _ rfl) rfl rfl rfl hl.1 (Nat.le_of_ble_eq_true rfl) rfl rfl ⟨(Nat.le_of_ble_eq_true rfl), (Nat.le_of_ble_eq_true rfl)⟩ ⟨(Nat.le_of_ble_eq_true rfl), (Nat.le_of_ble_eq_true rfl)⟩ dX12_comeHome_27) hS rfl (fun w2 H locs hQ hP hD hS => ?_)
      have hF := hF.trans hQ.2
      have hB0 : Blk w2 k (cM D α k mTaped mErr mPpl mBts ((f_X12_keeps mUs mW mUn).2) mRa mSt mKi mWd mVal mLet mFin mNp mNb mOuts mWant mFnd mTape mNum mNam mFst mBnm ((f_X12_comesHome mPpl mW b).2) ((f_X12_keeps mUs mW mUn).1) mSl mKp mnNum mnNam mnBo mnBn) := hQ.1
      have hf : (f_X12_comeHome mPpl mBts mUs mW mUn b) = ((f_X12_comesHome mPpl mW b).1, (f_X12_keeps mUs mW mUn).1, (f_X12_keeps mUs mW mUn).2, (f_X12_comesHome mPpl mW b).2) := (cd_t c1).trans (cd_t c2)
      exact g_iret S hr hlk hP hD hS (by rw [hf] <;> rfl) (⟨by rw [hf]; exact hB0, hF⟩) dX12_comeHome_30
    · refine lv_bipush (v := (-4)) S.1 S.2.1 dX12_comeHome_18 (by decide) ?_
      have hf : (f_X12_comeHome mPpl mBts mUs mW mUn b) = ((-4), mUn, mUs, mW) := (cd_t c1).trans (cd_f c2)
      exact g_iret S hr hlk hP hD hS (by rw [hf] <;> rfl) (⟨by rw [hf]; exact hB0, hF⟩) dX12_comeHome_20
  · refine lv_iconst (v := (-1)) S.1 S.2.1 dX12_comeHome_8 (by decide) ?_
    have hf : (f_X12_comeHome mPpl mBts mUs mW mUn b) = ((-1), mUn, mUs, mW) := cd_f c1
    exact g_iret S hr hlk hP hD hS (by rw [hf] <;> rfl) (⟨by rw [hf]; exact hB0, hF⟩) dX12_comeHome_9
def L_X12_passes_12 (mW : Nat → Int32) : Nat → (Nat → Int32) := iter_ (fun n sn => (bif (f_X12_isAtSea sn (nI n)) then (f_X12_sets sn (nI n) 3 ((f_X12_of sn (nI n) 3) + 1)) else (f_X12_sets sn (nI n) 3 ((f_X12_of sn (nI n) 3) + 0)))) (upd mW 0 ((mW 0) + 1))
def L_X12_passes_56 (mPpl : Int32) (mW : Nat → Int32) : Nat → Int32 × (Nat → Int32) := iter_ (fun n sn => (bif (f_X12_isOut (sn.2) (nI n)) then (if (f_X12_ofBoat (sn.2) (nI n) 1) = (sn.2 0) then ((sn.1 + (f_X12_comesHome mPpl (sn.2) (nI n)).1), (f_X12_comesHome mPpl (sn.2) (nI n)).2) else ((sn.1 + 0), sn.2)) else ((sn.1 + 0), sn.2))) (0, (L_X12_passes_12 mW mPpl.toNatClampNeg))
def f_X12_passes (mPpl : Int32) (mBts : Int32) (mW : Nat → Int32) : Int32 × (Nat → Int32) := ((L_X12_passes_56 mPpl mW mBts.toNatClampNeg).1, (L_X12_passes_56 mPpl mW mBts.toNatClampNeg).2)
theorem passes_a {mPpl : Int32} {mW : Nat → Int32} (h : vp_in mPpl 21) (hl : vp_in (mW 8) 31) : vp_in (L_X12_passes_12 mW mPpl.toNatClampNeg 8) 31 := by
  have hn := vin_lt h
  refine iter_inv (fun _ (s : Nat → Int32) => vp_in (s 8) 31) (lg_upd hl (by decide)) (fun n s hk hs => ?_) _ (Nat.le_refl _)
  show vp_in ((bif _ then _ else _ : Nat → Int32) 8) 31
  cases f_X12_isAtSea s (nI n)
  · exact lg_sets hs (vp_in_nI (by omega) (by decide)) (vin_d (by decide))
  · exact lg_sets hs (vp_in_nI (by omega) (by decide)) (vin_d (by decide))
theorem passes_b {mPpl mBts : Int32} {mW : Nat → Int32} (h : vp_in mPpl 21) (hb : vp_in mBts 7) (hl : vp_in (mW 8) 31) : ∀ n, n ≤ mBts.toNatClampNeg → vp_in ((L_X12_passes_56 mPpl mW n).2 8) 31 := by
  have hn := vin_lt hb
  refine iter_inv (fun _ (s : Int32 × (Nat → Int32)) => vp_in (s.2 8) 31) (passes_a h hl) (fun n s hk hs => ?_)
  show vp_in ((bif _ then (ite _ _ _) else _ : Int32 × (Nat → Int32)).2 8) 31
  cases f_X12_isOut s.2 (nI n)
  · exact hs
  · show vp_in ((ite _ _ _ : Int32 × (Nat → Int32)).2 8) 31
    split
    · exact comesHome_lg h (vp_in_nI (by omega) (by decide)) hs
    · exact hs
set_option maxHeartbeats 4000000 in
set_option maxRecDepth 100000 in
theorem c_X12_passes (l : Launch) (D : va_G) (A : Nat → Prop) (w : va_W) (α : Nat → Nat) (k : Nat) (mTaped : Int32) (mErr : Int32) (mPpl : Int32) (mBts : Int32) (mUs : Int32) (mRa : Int32) (mSt : Int32) (mKi : Int32) (mWd : Int64) (mVal : Int32) (mLet : Int32) (mFin : Int32) (mNp : Int32) (mNb : Int32) (mOuts : Int32) (mWant : Int32) (mFnd : Int32) (mTape : Nat → Int32) (mNum : Nat → Int32) (mNam : Nat → Int32) (mFst : Nat → Int32) (mBnm : Nat → Int32) (mW : Nat → Int32) (mUn : Nat → Int32) (mSl : Nat → Int32) (mKp : Nat → Int32) (mnNum : Nat → Int32) (mnNam : Nat → Int32) (mnBo : Nat → Int32) (mnBn : Nat → Int32) (hB0 : Blk w k (cM D α k mTaped mErr mPpl mBts mUs mRa mSt mKi mWd mVal mLet mFin mNp mNb mOuts mWant mFnd mTape mNum mNam mFst mBnm mW mUn mSl mKp mnNum mnNam mnBo mnBn)) (hy0 : vp_in mPpl 21) (hy1 : vp_in mBts 7) (hy2 : vp_in (mW 8) 31) : Met l yX12_passes (ws_ yX12_passes cX12_passes 3 (some .int)) ({ frames := 2, cells := 0, slots := 0, locals := 47 }) (gPre D A [.ref (α (k))] w) (gQ D A (some (.int (f_X12_passes mPpl mBts mW).1)) (fun w1 => Blk w1 k (cM D α k mTaped mErr mPpl mBts mUs mRa mSt mKi mWd mVal mLet mFin mNp mNb mOuts mWant mFnd mTape mNum mNam mFst mBnm ((f_X12_passes mPpl mBts mW).2) mUn mSl mKp mnNum mnNam mnBo mnBn) ∧ Same w w1 k 14)) 0 0 A := by
  refine g_met [(0, .ref (α (k)))] (plainFor_of_name (by decide)) (Nat.le_of_ble_eq_true rfl) rfl (fun pg en s mi ar below me co ls S hK hP hD hE hS hr hlk hnm hl => ?_)
  have hF : Same w w k 14 := Same.rf
  have hpn := vin_lt (show vp_in mPpl 21 by assumption)
  have hbn := vin_lt (show vp_in mBts 7 by assumption)
  refine lv_aload_n S.1 S.2.1 dX12_passes_0 rfl (lv_at hl 0 rfl) ?_
  refine g_get (v := .ref (α (k + 6))) S hK hP (hB0 0 _ rfl) rfl inX12 9 (by decide) qw1383 rfl dX12_passes_1 ?_
  refine lv_iconst (v := 0) S.1 S.2.1 dX12_passes_4 (by decide) ?_
  refine lv_dup2_11 S.1 S.2.1 dX12_passes_5 rfl rfl ?_
  refine g_iald S hK hP (hB0 6 _ rfl) (by first | assumption | exact vin_d (by decide) | exact vp_in_nI (by omega) (by decide) | decide) dX12_passes_6 ?_
  refine lv_iconst (v := 1) S.1 S.2.1 dX12_passes_7 (by decide) ?_
  refine lv_iadd S.1 S.2.1 dX12_passes_8 ?_
  refine g_iast S hK hP hD hS (hB0 6 _ rfl) (by first | assumption | exact vin_d (by decide) | exact vp_in_nI (by omega) (by decide) | decide) dX12_passes_9 (fun w1 H locs hw hP hD hS => ?_)
  have hF := Same.set hF 6 hw (by decide)
  have hB0 : Blk w1 k (cM D α k mTaped mErr mPpl mBts mUs mRa mSt mKi mWd mVal mLet mFin mNp mNb mOuts mWant mFnd mTape mNum mNam mFst mBnm (upd mW 0 ((mW 0) + 1)) mUn mSl mKp mnNum mnNam mnBo mnBn) := hB0.set 6 hw (Nat.le_of_ble_eq_true rfl) rfl
  refine lv_iconst (v := 0) S.1 S.2.1 dX12_passes_10 (by decide) ?_
  refine lv_istore_n (lv' := [(1, .int 0), (0, .ref (α (k)))]) S.1 S.2.1 dX12_passes_11 rfl hl (by decide) rfl (fun ls hl => ?_)
  have lp12 : ∀ (j n : Nat), n + j = mPpl.toNatClampNeg → ∀ (wl : va_W) (H : Heap) (locs : List Loc) (ls : Array Slot), va_P D vwCl wl H → va_D A wl → va_S A s.heap H locs → Same w wl k 14 → Blk wl k (cM D α k mTaped mErr mPpl mBts mUs mRa mSt mKi mWd mVal mLet mFin mNp mNb mOuts mWant mFnd mTape mNum mNam mFst mBnm (L_X12_passes_12 mW n) mUn mSl mKp mnNum mnNam mnBo mnBn) → lv_has ls 3 [(1, .int (nI n)), (0, .ref (α (k)))] → W pg l en ({ frames := 2, cells := 0, slots := 0, locals := 47 } : Room) s mi ar below me co H locs 0 0 (MQ below (gQ D A (some (.int (f_X12_passes mPpl mBts mW).1)) (fun w1 => Blk w1 k (cM D α k mTaped mErr mPpl mBts mUs mRa mSt mKi mWd mVal mLet mFin mNp mNb mOuts mWant mFnd mTape mNum mNam mFst mBnm ((f_X12_passes mPpl mBts mW).2) mUn mSl mKp mnNum mnNam mnBo mnBn) ∧ Same w w1 k 14)) ar s 0 0 A) (F0 mi 12 ls []) := by
    intro j
    induction j with
    | zero =>
      intro n hn wl H locs ls hP hD hS hF hB0 hl
      have hn : mPpl.toNatClampNeg = n := hn.symm
      subst hn
      refine lv_iload_n S.1 S.2.1 dX12_passes_12 rfl (lv_at hl 0 rfl) ?_
      refine lv_aload_n S.1 S.2.1 dX12_passes_13 rfl (lv_at hl 1 rfl) ?_
      refine g_get (v := .int mPpl) S hK hP (hB0 0 _ rfl) rfl inX12 4 (by decide) qw1378 rfl dX12_passes_14 ?_
      refine lv_icmp_ge (tgt := 52) S.1 S.2.1 dX12_passes_17 (by decide) (fun (c1 : mPpl ≤ (nI mPpl.toNatClampNeg)) => ?_) (fun (c1 : ¬ mPpl ≤ (nI mPpl.toNatClampNeg)) => absurd c1 (lp_out (s := 0) ((Nat.max_eq_left (Nat.zero_le _)).symm)))
      refine lv_iconst (v := 0) S.1 S.2.1 dX12_passes_52 (by decide) ?_
      refine lv_istore_n (lv' := [(1, .int 0), (0, .ref (α (k)))]) S.1 S.2.1 dX12_passes_53 rfl hl (by decide) rfl (fun ls hl => ?_)
      refine lv_iconst (v := 0) S.1 S.2.1 dX12_passes_54 (by decide) ?_
      refine lv_istore_n (lv' := [(2, .int 0), (1, .int 0), (0, .ref (α (k)))]) S.1 S.2.1 dX12_passes_55 rfl hl (by decide) rfl (fun ls hl => ?_)
      have lp56 : ∀ (j n : Nat), n + j = mBts.toNatClampNeg → ∀ (wl : va_W) (H : Heap) (locs : List Loc) (ls : Array Slot), va_P D vwCl wl H → va_D A wl → va_S A s.heap H locs → Same w wl k 14 → Blk wl k (cM D α k mTaped mErr mPpl mBts mUs mRa mSt mKi mWd mVal mLet mFin mNp mNb mOuts mWant mFnd mTape mNum mNam mFst mBnm ((L_X12_passes_56 mPpl mW n).2) mUn mSl mKp mnNum mnNam mnBo mnBn) → lv_has ls 3 [(2, .int (nI n)), (1, .int ((L_X12_passes_56 mPpl mW n).1)), (0, .ref (α (k)))] → W pg l en ({ frames := 2, cells := 0, slots := 0, locals := 47 } : Room) s mi ar below me co H locs 0 0 (MQ below (gQ D A (some (.int (f_X12_passes mPpl mBts mW).1)) (fun w1 => Blk w1 k (cM D α k mTaped mErr mPpl mBts mUs mRa mSt mKi mWd mVal mLet mFin mNp mNb mOuts mWant mFnd mTape mNum mNam mFst mBnm ((f_X12_passes mPpl mBts mW).2) mUn mSl mKp mnNum mnNam mnBo mnBn) ∧ Same w w1 k 14)) ar s 0 0 A) (F0 mi 56 ls []) := by
        intro j
        induction j with
        | zero =>
          intro n hn wl H locs ls hP hD hS hF hB0 hl
          have hn : mBts.toNatClampNeg = n := hn.symm
          subst hn
          refine lv_iload_n S.1 S.2.1 dX12_passes_56 rfl (lv_at hl 0 rfl) ?_
          refine lv_aload_n S.1 S.2.1 dX12_passes_57 rfl (lv_at hl 2 rfl) ?_
          refine g_get (v := .int mBts) S hK hP (hB0 0 _ rfl) rfl inX12 5 (by decide) qw1379 rfl dX12_passes_58 ?_
          refine lv_icmp_ge (tgt := 105) S.1 S.2.1 dX12_passes_61 (by decide) (fun (c2 : mBts ≤ (nI mBts.toNatClampNeg)) => ?_) (fun (c2 : ¬ mBts ≤ (nI mBts.toNatClampNeg)) => absurd c2 (lp_out (s := 0) ((Nat.max_eq_left (Nat.zero_le _)).symm)))
          refine lv_iload_n S.1 S.2.1 dX12_passes_105 rfl (lv_at hl 1 rfl) ?_
          have hf : (f_X12_passes mPpl mBts mW) = ((L_X12_passes_56 mPpl mW mBts.toNatClampNeg).1, (L_X12_passes_56 mPpl mW mBts.toNatClampNeg).2) := rfl
          exact g_iret S hr hlk hP hD hS (by rw [hf] <;> rfl) (⟨by rw [hf]; exact hB0, hF⟩) dX12_passes_106
        | succ j ih =>
          intro n hn wl H locs ls hP hD hS hF hB0 hl
          refine lv_iload_n S.1 S.2.1 dX12_passes_56 rfl (lv_at hl 0 rfl) ?_
          refine lv_aload_n S.1 S.2.1 dX12_passes_57 rfl (lv_at hl 2 rfl) ?_
          refine g_get (v := .int mBts) S hK hP (hB0 0 _ rfl) rfl inX12 5 (by decide) qw1379 rfl dX12_passes_58 ?_
          refine lv_icmp_ge (tgt := 105) S.1 S.2.1 dX12_passes_61 (by decide) (fun (c3 : mBts ≤ (nI n)) => absurd c3 (lp_in (s := 0) (rfl) hn)) (fun (c3 : ¬ mBts ≤ (nI n)) => ?_)
          refine lv_iload_n S.1 S.2.1 dX12_passes_64 rfl (lv_at hl 1 rfl) ?_
          refine lv_aload_n S.1 S.2.1 dX12_passes_65 rfl (lv_at hl 2 rfl) ?_
          refine lv_iload_n S.1 S.2.1 dX12_passes_66 rfl (lv_at hl 0 rfl) ?_
          refine g_aftR0 (st1 := [.int (b2i (f_X12_isOut ((L_X12_passes_56 mPpl mW n).2) (nI n))), .int ((L_X12_passes_56 mPpl mW n).1)]) (g_V (As := [.int (nI n)]) (rest := [.int ((L_X12_passes_56 mPpl mW n).1)]) S mi_X12_isOut qw1567 (c_X12_isOut l D A wl α (k) mTaped mErr mPpl mBts mUs mRa mSt mKi mWd mVal mLet mFin mNp mNb mOuts mWant mFnd mTape mNum mNam mFst mBnm ((L_X12_passes_56 mPpl mW n).2) mUn mSl mKp mnNum mnNam mnBo mnBn (nI n) hB0 (by first | assumption | exact vin_d (by decide) | exact vp_in_nI (by omega) (by decide) | decide | omega)) hK hP hD hE hS (hB0 0 _ rfl) rfl rfl rfl hl.1 (Nat.le_of_ble_eq_true rfl) rfl rfl ⟨(Nat.le_of_ble_eq_true rfl), (Nat.le_of_ble_eq_true rfl)⟩ ⟨(Nat.le_of_ble_eq_true rfl), (Nat.le_of_ble_eq_true rfl)⟩ dX12_passes_67) hS rfl (fun locs hS => ?_)
          refine g_bifeq (b := (f_X12_isOut ((L_X12_passes_56 mPpl mW n).2) (nI n))) (tgt := 96) S dX12_passes_70 (by decide) (fun (c4 : (f_X12_isOut ((L_X12_passes_56 mPpl mW n).2) (nI n)) = false) => ?_) (fun (c4 : (f_X12_isOut ((L_X12_passes_56 mPpl mW n).2) (nI n)) = true) => ?_)
          · refine lv_iconst (v := 0) S.1 S.2.1 dX12_passes_96 (by decide) ?_
            refine lv_iadd S.1 S.2.1 dX12_passes_97 ?_
            refine lv_istore_n (lv' := [(1, .int ((L_X12_passes_56 mPpl mW n).1 + 0)), (2, .int (nI n)), (0, .ref (α (k)))]) S.1 S.2.1 dX12_passes_98 rfl hl (by decide) rfl (fun ls hl => ?_)
            refine lv_iinc (v := (nI (n + 1))) (lv' := [(2, .int (nI (n + 1))), (1, .int ((L_X12_passes_56 mPpl mW n).1 + 0)), (0, .ref (α (k)))]) S.1 S.2.1 dX12_passes_99 hl (k := 1) rfl ((nI_succ n).symm) (by decide) rfl (fun ls hl => ?_)
            refine lv_goto (tgt := 56) S.1 S.2.1 dX12_passes_102 (by decide) ?_
            have hL : (L_X12_passes_56 mPpl mW (n + 1)) = (((L_X12_passes_56 mPpl mW n).1 + 0), (L_X12_passes_56 mPpl mW n).2) := (iter_s _ _ _).trans (cd_f c4)
            refine ih (n + 1) (by omega) _ _ _ _ hP hD hS hF ?_ ?_
            · rw [hL]; exact hB0
            · rw [hL]; exact lv_sub hl [0, 1, 2] rfl
          · refine lv_aload_n S.1 S.2.1 dX12_passes_73 rfl (lv_at hl 2 rfl) ?_
            refine lv_iload_n S.1 S.2.1 dX12_passes_74 rfl (lv_at hl 0 rfl) ?_
            refine lv_iconst (v := 1) S.1 S.2.1 dX12_passes_75 (by decide) ?_
            refine g_aftR0 (st1 := [.int (f_X12_ofBoat ((L_X12_passes_56 mPpl mW n).2) (nI n) 1), .int ((L_X12_passes_56 mPpl mW n).1)]) (g_V (As := [.int (nI n), .int 1]) (rest := [.int ((L_X12_passes_56 mPpl mW n).1)]) S mi_X12_ofBoat qw1571 (c_X12_ofBoat l D A wl α (k) mTaped mErr mPpl mBts mUs mRa mSt mKi mWd mVal mLet mFin mNp mNb mOuts mWant mFnd mTape mNum mNam mFst mBnm ((L_X12_passes_56 mPpl mW n).2) mUn mSl mKp mnNum mnNam mnBo mnBn (nI n) 1 hB0 (by first | assumption | exact vin_d (by decide) | exact vp_in_nI (by omega) (by decide) | decide | omega) (by first | assumption | exact vin_d (by decide) | exact vp_in_nI (by omega) (by decide) | decide | omega)) hK hP hD hE hS (hB0 0 _ rfl) rfl rfl rfl hl.1 (Nat.le_of_ble_eq_true rfl) rfl rfl ⟨(Nat.le_of_ble_eq_true rfl), (Nat.le_of_ble_eq_true rfl)⟩ ⟨(Nat.le_of_ble_eq_true rfl), (Nat.le_of_ble_eq_true rfl)⟩ dX12_passes_76) hS rfl (fun locs hS => ?_)
            refine lv_aload_n S.1 S.2.1 dX12_passes_79 rfl (lv_at hl 2 rfl) ?_
            refine g_get (v := .ref (α (k + 6))) S hK hP (hB0 0 _ rfl) rfl inX12 9 (by decide) qw1383 rfl dX12_passes_80 ?_
            refine lv_iconst (v := 0) S.1 S.2.1 dX12_passes_83 (by decide) ?_
            refine g_iald S hK hP (hB0 6 _ rfl) (by first | assumption | exact vin_d (by decide) | exact vp_in_nI (by omega) (by decide) | decide) dX12_passes_84 ?_
            refine lv_icmp_ne (tgt := 96) S.1 S.2.1 dX12_passes_85 (by decide) (fun (c5 : ¬ (f_X12_ofBoat ((L_X12_passes_56 mPpl mW n).2) (nI n) 1) = ((L_X12_passes_56 mPpl mW n).2 0)) => ?_) (fun (c5 : (f_X12_ofBoat ((L_X12_passes_56 mPpl mW n).2) (nI n) 1) = ((L_X12_passes_56 mPpl mW n).2 0)) => ?_)
            · refine lv_iconst (v := 0) S.1 S.2.1 dX12_passes_96 (by decide) ?_
              refine lv_iadd S.1 S.2.1 dX12_passes_97 ?_
              refine lv_istore_n (lv' := [(1, .int ((L_X12_passes_56 mPpl mW n).1 + 0)), (2, .int (nI n)), (0, .ref (α (k)))]) S.1 S.2.1 dX12_passes_98 rfl hl (by decide) rfl (fun ls hl => ?_)
              refine lv_iinc (v := (nI (n + 1))) (lv' := [(2, .int (nI (n + 1))), (1, .int ((L_X12_passes_56 mPpl mW n).1 + 0)), (0, .ref (α (k)))]) S.1 S.2.1 dX12_passes_99 hl (k := 1) rfl ((nI_succ n).symm) (by decide) rfl (fun ls hl => ?_)
              refine lv_goto (tgt := 56) S.1 S.2.1 dX12_passes_102 (by decide) ?_
              have hL : (L_X12_passes_56 mPpl mW (n + 1)) = (((L_X12_passes_56 mPpl mW n).1 + 0), (L_X12_passes_56 mPpl mW n).2) := (iter_s _ _ _).trans ((cd_t c4).trans (if_neg c5))
              refine ih (n + 1) (by omega) _ _ _ _ hP hD hS hF ?_ ?_
              · rw [hL]; exact hB0
              · rw [hL]; exact lv_sub hl [0, 1, 2] rfl
            · refine lv_aload_n S.1 S.2.1 dX12_passes_88 rfl (lv_at hl 2 rfl) ?_
              refine lv_iload_n S.1 S.2.1 dX12_passes_89 rfl (lv_at hl 0 rfl) ?_
              refine g_aft0 (st1 := [.int ((f_X12_comesHome mPpl ((L_X12_passes_56 mPpl mW n).2) (nI n)).1), .int ((L_X12_passes_56 mPpl mW n).1)]) (g_V (As := [.int (nI n)]) (rest := [.int ((L_X12_passes_56 mPpl mW n).1)]) S mi_X12_comesHome qw1603 (c_X12_comesHome l D A wl α (k) mTaped mErr mPpl mBts mUs mRa mSt mKi mWd mVal mLet mFin mNp mNb mOuts mWant mFnd mTape mNum mNam mFst mBnm ((L_X12_passes_56 mPpl mW n).2) mUn mSl mKp mnNum mnNam mnBo mnBn (nI n) hB0 (by first | assumption | exact vin_d (by decide) | exact vp_in_nI (by omega) (by decide) | decide | omega) (by first | assumption | exact vin_d (by decide) | exact vp_in_nI (by omega) (by decide) | decide | omega) (by exact passes_b hy0 hy1 hy2 _ (by omega))) hK hP hD hE hS (hB0 0 _ rfl) rfl rfl rfl hl.1 (Nat.le_of_ble_eq_true rfl) rfl rfl ⟨(Nat.le_of_ble_eq_true rfl), (Nat.le_of_ble_eq_true rfl)⟩ ⟨(Nat.le_of_ble_eq_true rfl), (Nat.le_of_ble_eq_true rfl)⟩ dX12_passes_90) hS rfl (fun w2 H locs hQ hP hD hS => ?_)
              have hF := hF.trans hQ.2
              have hB0 : Blk w2 k (cM D α k mTaped mErr mPpl mBts mUs mRa mSt mKi mWd mVal mLet mFin mNp mNb mOuts mWant mFnd mTape mNum mNam mFst mBnm ((f_X12_comesHome mPpl ((L_X12_passes_56 mPpl mW n).2) (nI n)).2) mUn mSl mKp mnNum mnNam mnBo mnBn) := hQ.1
              refine lv_goto (tgt := 97) S.1 S.2.1 dX12_passes_93 (by decide) ?_
              refine lv_iadd S.1 S.2.1 dX12_passes_97 ?_
              refine lv_istore_n (lv' := [(1, .int ((L_X12_passes_56 mPpl mW n).1 + (f_X12_comesHome mPpl ((L_X12_passes_56 mPpl mW n).2) (nI n)).1)), (2, .int (nI n)), (0, .ref (α (k)))]) S.1 S.2.1 dX12_passes_98 rfl hl (by decide) rfl (fun ls hl => ?_)
              refine lv_iinc (v := (nI (n + 1))) (lv' := [(2, .int (nI (n + 1))), (1, .int ((L_X12_passes_56 mPpl mW n).1 + (f_X12_comesHome mPpl ((L_X12_passes_56 mPpl mW n).2) (nI n)).1)), (0, .ref (α (k)))]) S.1 S.2.1 dX12_passes_99 hl (k := 1) rfl ((nI_succ n).symm) (by decide) rfl (fun ls hl => ?_)
              refine lv_goto (tgt := 56) S.1 S.2.1 dX12_passes_102 (by decide) ?_
              have hL : (L_X12_passes_56 mPpl mW (n + 1)) = (((L_X12_passes_56 mPpl mW n).1 + (f_X12_comesHome mPpl ((L_X12_passes_56 mPpl mW n).2) (nI n)).1), (f_X12_comesHome mPpl ((L_X12_passes_56 mPpl mW n).2) (nI n)).2) := (iter_s _ _ _).trans ((cd_t c4).trans (if_pos c5))
              refine ih (n + 1) (by omega) _ _ _ _ hP hD hS hF ?_ ?_
              · rw [hL]; exact hB0
              · rw [hL]; exact lv_sub hl [0, 1, 2] rfl
      have hL0 : (L_X12_passes_56 mPpl mW 0) = (0, (L_X12_passes_12 mW mPpl.toNatClampNeg)) := iter_z _ _
      exact lp56 mBts.toNatClampNeg 0 (Nat.zero_add _) _ _ _ _ hP hD hS hF (by rw [hL0]; exact hB0) (by rw [hL0]; exact lv_sub hl [0, 1, 2] rfl)
    | succ j ih =>
      intro n hn wl H locs ls hP hD hS hF hB0 hl
      refine lv_iload_n S.1 S.2.1 dX12_passes_12 rfl (lv_at hl 0 rfl) ?_
      refine lv_aload_n S.1 S.2.1 dX12_passes_13 rfl (lv_at hl 1 rfl) ?_
      refine g_get (v := .int mPpl) S hK hP (hB0 0 _ rfl) rfl inX12 4 (by decide) qw1378 rfl dX12_passes_14 ?_
      refine lv_icmp_ge (tgt := 52) S.1 S.2.1 dX12_passes_17 (by decide) (fun (c6 : mPpl ≤ (nI n)) => absurd c6 (lp_in (s := 0) (rfl) hn)) (fun (c6 : ¬ mPpl ≤ (nI n)) => ?_)
      refine lv_aload_n S.1 S.2.1 dX12_passes_20 rfl (lv_at hl 1 rfl) ?_
      refine lv_iload_n S.1 S.2.1 dX12_passes_21 rfl (lv_at hl 0 rfl) ?_
      refine lv_iconst (v := 3) S.1 S.2.1 dX12_passes_22 (by decide) ?_
      refine lv_aload_n S.1 S.2.1 dX12_passes_23 rfl (lv_at hl 1 rfl) ?_
      refine lv_iload_n S.1 S.2.1 dX12_passes_24 rfl (lv_at hl 0 rfl) ?_
      refine lv_iconst (v := 3) S.1 S.2.1 dX12_passes_25 (by decide) ?_
      refine g_aftR0 (st1 := [.int (f_X12_of (L_X12_passes_12 mW n) (nI n) 3), .int 3, .int (nI n), .ref (α (k))]) (g_V (As := [.int (nI n), .int 3]) (rest := [.int 3, .int (nI n), .ref (α (k))]) S mi_X12_of qw1579 (c_X12_of l D A wl α (k) mTaped mErr mPpl mBts mUs mRa mSt mKi mWd mVal mLet mFin mNp mNb mOuts mWant mFnd mTape mNum mNam mFst mBnm (L_X12_passes_12 mW n) mUn mSl mKp mnNum mnNam mnBo mnBn (nI n) 3 hB0 (by first | assumption | exact vin_d (by decide) | exact vp_in_nI (by omega) (by decide) | decide | omega) (by first | assumption | exact vin_d (by decide) | exact vp_in_nI (by omega) (by decide) | decide | omega)) hK hP hD hE hS (hB0 0 _ rfl) rfl rfl rfl hl.1 (Nat.le_of_ble_eq_true rfl) rfl rfl ⟨(Nat.le_of_ble_eq_true rfl), (Nat.le_of_ble_eq_true rfl)⟩ ⟨(Nat.le_of_ble_eq_true rfl), (Nat.le_of_ble_eq_true rfl)⟩ dX12_passes_26) hS rfl (fun locs hS => ?_)
      refine lv_aload_n S.1 S.2.1 dX12_passes_29 rfl (lv_at hl 1 rfl) ?_
      refine lv_iload_n S.1 S.2.1 dX12_passes_30 rfl (lv_at hl 0 rfl) ?_
      refine g_aftR0 (st1 := [.int (b2i (f_X12_isAtSea (L_X12_passes_12 mW n) (nI n))), .int (f_X12_of (L_X12_passes_12 mW n) (nI n) 3), .int 3, .int (nI n), .ref (α (k))]) (g_V (As := [.int (nI n)]) (rest := [.int (f_X12_of (L_X12_passes_12 mW n) (nI n) 3), .int 3, .int (nI n), .ref (α (k))]) S mi_X12_isAtSea qw1583 (c_X12_isAtSea l D A wl α (k) mTaped mErr mPpl mBts mUs mRa mSt mKi mWd mVal mLet mFin mNp mNb mOuts mWant mFnd mTape mNum mNam mFst mBnm (L_X12_passes_12 mW n) mUn mSl mKp mnNum mnNam mnBo mnBn (nI n) hB0 (by first | assumption | exact vin_d (by decide) | exact vp_in_nI (by omega) (by decide) | decide | omega)) hK hP hD hE hS (hB0 0 _ rfl) rfl rfl rfl hl.1 (Nat.le_of_ble_eq_true rfl) rfl rfl ⟨(Nat.le_of_ble_eq_true rfl), (Nat.le_of_ble_eq_true rfl)⟩ ⟨(Nat.le_of_ble_eq_true rfl), (Nat.le_of_ble_eq_true rfl)⟩ dX12_passes_31) hS rfl (fun locs hS => ?_)
      refine g_bifeq (b := (f_X12_isAtSea (L_X12_passes_12 mW n) (nI n))) (tgt := 41) S dX12_passes_34 (by decide) (fun (c7 : (f_X12_isAtSea (L_X12_passes_12 mW n) (nI n)) = false) => ?_) (fun (c7 : (f_X12_isAtSea (L_X12_passes_12 mW n) (nI n)) = true) => ?_)
      · refine lv_iconst (v := 0) S.1 S.2.1 dX12_passes_41 (by decide) ?_
        refine lv_iadd S.1 S.2.1 dX12_passes_42 ?_
        refine g_aft0 (st1 := []) (g_V (As := [.int (nI n), .int 3, .int ((f_X12_of (L_X12_passes_12 mW n) (nI n) 3) + 0)]) (rest := []) S mi_X12_sets qw1362 (c_X12_sets l D A wl α (k) mTaped mErr mPpl mBts mUs mRa mSt mKi mWd mVal mLet mFin mNp mNb mOuts mWant mFnd mTape mNum mNam mFst mBnm (L_X12_passes_12 mW n) mUn mSl mKp mnNum mnNam mnBo mnBn (nI n) 3 ((f_X12_of (L_X12_passes_12 mW n) (nI n) 3) + 0) hB0 (by first | assumption | exact vin_d (by decide) | exact vp_in_nI (by omega) (by decide) | decide | omega) (by first | assumption | exact vin_d (by decide) | exact vp_in_nI (by omega) (by decide) | decide | omega)) hK hP hD hE hS (hB0 0 _ rfl) rfl rfl rfl hl.1 (Nat.le_of_ble_eq_true rfl) rfl rfl ⟨(Nat.le_of_ble_eq_true rfl), (Nat.le_of_ble_eq_true rfl)⟩ ⟨(Nat.le_of_ble_eq_true rfl), (Nat.le_of_ble_eq_true rfl)⟩ dX12_passes_43) hS rfl (fun w3 H locs hQ hP hD hS => ?_)
        have hF := hF.trans hQ.2
        have hB0 : Blk w3 k (cM D α k mTaped mErr mPpl mBts mUs mRa mSt mKi mWd mVal mLet mFin mNp mNb mOuts mWant mFnd mTape mNum mNam mFst mBnm (f_X12_sets (L_X12_passes_12 mW n) (nI n) 3 ((f_X12_of (L_X12_passes_12 mW n) (nI n) 3) + 0)) mUn mSl mKp mnNum mnNam mnBo mnBn) := hQ.1
        refine lv_iinc (v := (nI (n + 1))) (lv' := [(1, .int (nI (n + 1))), (0, .ref (α (k)))]) S.1 S.2.1 dX12_passes_46 hl (k := 0) rfl ((nI_succ n).symm) (by decide) rfl (fun ls hl => ?_)
        refine lv_goto (tgt := 12) S.1 S.2.1 dX12_passes_49 (by decide) ?_
        have hL : (L_X12_passes_12 mW (n + 1)) = (f_X12_sets (L_X12_passes_12 mW n) (nI n) 3 ((f_X12_of (L_X12_passes_12 mW n) (nI n) 3) + 0)) := (iter_s _ _ _).trans (cd_f c7)
        refine ih (n + 1) (by omega) _ _ _ _ hP hD hS hF ?_ ?_
        · rw [hL]; exact hB0
        · exact lv_sub hl [0, 1] rfl
      · refine lv_iconst (v := 1) S.1 S.2.1 dX12_passes_37 (by decide) ?_
        refine lv_goto (tgt := 42) S.1 S.2.1 dX12_passes_38 (by decide) ?_
        refine lv_iadd S.1 S.2.1 dX12_passes_42 ?_
        refine g_aft0 (st1 := []) (g_V (As := [.int (nI n), .int 3, .int ((f_X12_of (L_X12_passes_12 mW n) (nI n) 3) + 1)]) (rest := []) S mi_X12_sets qw1362 (c_X12_sets l D A wl α (k) mTaped mErr mPpl mBts mUs mRa mSt mKi mWd mVal mLet mFin mNp mNb mOuts mWant mFnd mTape mNum mNam mFst mBnm (L_X12_passes_12 mW n) mUn mSl mKp mnNum mnNam mnBo mnBn (nI n) 3 ((f_X12_of (L_X12_passes_12 mW n) (nI n) 3) + 1) hB0 (by first | assumption | exact vin_d (by decide) | exact vp_in_nI (by omega) (by decide) | decide | omega) (by first | assumption | exact vin_d (by decide) | exact vp_in_nI (by omega) (by decide) | decide | omega)) hK hP hD hE hS (hB0 0 _ rfl) rfl rfl rfl hl.1 (Nat.le_of_ble_eq_true rfl) rfl rfl ⟨(Nat.le_of_ble_eq_true rfl), (Nat.le_of_ble_eq_true rfl)⟩ ⟨(Nat.le_of_ble_eq_true rfl), (Nat.le_of_ble_eq_true rfl)⟩ dX12_passes_43) hS rfl (fun w4 H locs hQ hP hD hS => ?_)
        have hF := hF.trans hQ.2
        have hB0 : Blk w4 k (cM D α k mTaped mErr mPpl mBts mUs mRa mSt mKi mWd mVal mLet mFin mNp mNb mOuts mWant mFnd mTape mNum mNam mFst mBnm (f_X12_sets (L_X12_passes_12 mW n) (nI n) 3 ((f_X12_of (L_X12_passes_12 mW n) (nI n) 3) + 1)) mUn mSl mKp mnNum mnNam mnBo mnBn) := hQ.1
        refine lv_iinc (v := (nI (n + 1))) (lv' := [(1, .int (nI (n + 1))), (0, .ref (α (k)))]) S.1 S.2.1 dX12_passes_46 hl (k := 0) rfl ((nI_succ n).symm) (by decide) rfl (fun ls hl => ?_)
        refine lv_goto (tgt := 12) S.1 S.2.1 dX12_passes_49 (by decide) ?_
        have hL : (L_X12_passes_12 mW (n + 1)) = (f_X12_sets (L_X12_passes_12 mW n) (nI n) 3 ((f_X12_of (L_X12_passes_12 mW n) (nI n) 3) + 1)) := (iter_s _ _ _).trans (cd_t c7)
        refine ih (n + 1) (by omega) _ _ _ _ hP hD hS hF ?_ ?_
        · rw [hL]; exact hB0
        · exact lv_sub hl [0, 1] rfl
  have hL0 : (L_X12_passes_12 mW 0) = (upd mW 0 ((mW 0) + 1)) := iter_z _ _
  exact lp12 mPpl.toNatClampNeg 0 (Nat.zero_add _) _ _ _ _ hP hD hS hF (by rw [hL0]; exact hB0) (lv_sub hl [0, 1] rfl)
def L_X12_pass_22 (mPpl : Int32) (mBts : Int32) (mW : Nat → Int32) : Nat → Int32 × (Nat → Int32) := iter_ (fun n sn => ((sn.1 + (f_X12_passes mPpl mBts (sn.2)).1), (f_X12_passes mPpl mBts (sn.2)).2)) (0, mW)
def f_X12_pass (mPpl : Int32) (mBts : Int32) (mUs : Int32) (mW : Nat → Int32) (mUn : Nat → Int32) (d : Int32) : Int32 × (Nat → Int32) × Int32 × (Nat → Int32) := (bif (f_X12_in d.toInt64 1 99) then ((L_X12_pass_22 mPpl mBts mW d.toNatClampNeg).1, (f_X12_keeps mUs mW mUn).1, (f_X12_keeps mUs mW mUn).2, (L_X12_pass_22 mPpl mBts mW d.toNatClampNeg).2) else ((-1), mUn, mUs, mW))
theorem passes_lg {mPpl mBts : Int32} {mW : Nat → Int32} (h : vp_in mPpl 21) (hb : vp_in mBts 7) (hl : vp_in (mW 8) 31) : vp_in ((f_X12_passes mPpl mBts mW).2 8) 31 := passes_b h hb hl _ (Nat.le_refl _)
theorem pass_a {mPpl mBts : Int32} {mW : Nat → Int32} (h : vp_in mPpl 21) (hb : vp_in mBts 7) (hl : vp_in (mW 8) 31) (n : Nat) : vp_in ((L_X12_pass_22 mPpl mBts mW n).2 8) 31 :=
  iter_inv (N := n) (fun _ (s : Int32 × (Nat → Int32)) => vp_in (s.2 8) 31) hl (fun n s hk hs => passes_lg h hb hs) n (Nat.le_refl n)
set_option maxHeartbeats 4000000 in
set_option maxRecDepth 100000 in
theorem c_X12_pass (l : Launch) (D : va_G) (A : Nat → Prop) (w : va_W) (α : Nat → Nat) (k : Nat) (mTaped : Int32) (mErr : Int32) (mPpl : Int32) (mBts : Int32) (mUs : Int32) (mRa : Int32) (mSt : Int32) (mKi : Int32) (mWd : Int64) (mVal : Int32) (mLet : Int32) (mFin : Int32) (mNp : Int32) (mNb : Int32) (mOuts : Int32) (mWant : Int32) (mFnd : Int32) (mTape : Nat → Int32) (mNum : Nat → Int32) (mNam : Nat → Int32) (mFst : Nat → Int32) (mBnm : Nat → Int32) (mW : Nat → Int32) (mUn : Nat → Int32) (mSl : Nat → Int32) (mKp : Nat → Int32) (mnNum : Nat → Int32) (mnNam : Nat → Int32) (mnBo : Nat → Int32) (mnBn : Nat → Int32) (d : Int32) (hB0 : Blk w k (cM D α k mTaped mErr mPpl mBts mUs mRa mSt mKi mWd mVal mLet mFin mNp mNb mOuts mWant mFnd mTape mNum mNam mFst mBnm mW mUn mSl mKp mnNum mnNam mnBo mnBn)) (hy0 : vp_in mUs 9) (hy1 : vp_in mPpl 21) (hy2 : vp_in mBts 7) (hy3 : vp_in (mW 8) 31) : Met l yX12_pass (ws_ yX12_pass cX12_pass 4 (some .int)) ({ frames := 3, cells := 0, slots := 0, locals := 69 }) (gPre D A [.ref (α (k)), .int d] w) (gQ D A (some (.int (f_X12_pass mPpl mBts mUs mW mUn d).1)) (fun w1 => Blk w1 k (cM D α k mTaped mErr mPpl mBts ((f_X12_pass mPpl mBts mUs mW mUn d).2.2.1) mRa mSt mKi mWd mVal mLet mFin mNp mNb mOuts mWant mFnd mTape mNum mNam mFst mBnm ((f_X12_pass mPpl mBts mUs mW mUn d).2.2.2) ((f_X12_pass mPpl mBts mUs mW mUn d).2.1) mSl mKp mnNum mnNam mnBo mnBn) ∧ Same w w1 k 14)) 0 0 A := by
  refine g_met [(0, .ref (α (k))), (1, .int d)] (plainFor_of_name (by decide)) (Nat.le_of_ble_eq_true rfl) rfl (fun pg en s mi ar below me co ls S hK hP hD hE hS hr hlk hnm hl => ?_)
  have hF : Same w w k 14 := Same.rf
  refine lv_iload_n S.1 S.2.1 dX12_pass_0 rfl (lv_at hl 1 rfl) ?_
  refine lv_i2l (v := d.toInt64) S.1 S.2.1 dX12_pass_1 rfl ?_
  refine lv_lconst (v := 1) S.1 S.2.1 dX12_pass_2 (by decide) ?_
  refine lv_ldc2 (v := 99) S.1 S.2.1 S.2.2.2.1 (S.2.2.2.2 _ qw1566) dX12_pass_3 ?_
  refine g_aftR0 (st1 := [.int (b2i (f_X12_in d.toInt64 1 99))]) (g_St (As := [.long d.toInt64, .long 1, .long 99]) (rest := []) S ms_X12_in qw1477 (c_X12_in l D A w α d.toInt64 1 99) hK hP hD hE hS rfl rfl hl.1 (Nat.le_of_ble_eq_true rfl) rfl rfl ⟨(Nat.le_of_ble_eq_true rfl), (Nat.le_of_ble_eq_true rfl)⟩ ⟨(Nat.le_of_ble_eq_true rfl), (Nat.le_of_ble_eq_true rfl)⟩ dX12_pass_6) hS rfl (fun locs hS => ?_)
  refine g_bifne (b := (f_X12_in d.toInt64 1 99)) (tgt := 14) S dX12_pass_9 (by decide) (fun (c1 : (f_X12_in d.toInt64 1 99) = true) => ?_) (fun (c1 : (f_X12_in d.toInt64 1 99) = false) => ?_)
  · have hd99 : vp_in d 100 := in_vin1 (by decide) (by decide) c1
    refine lv_aload_n S.1 S.2.1 dX12_pass_14 rfl (lv_at hl 0 rfl) ?_
    refine g_aft0 (st1 := []) (g_V (As := []) (rest := []) S mi_X12_keeps qw1575 (c_X12_keeps l D A w α (k) mTaped mErr mPpl mBts mUs mRa mSt mKi mWd mVal mLet mFin mNp mNb mOuts mWant mFnd mTape mNum mNam mFst mBnm mW mUn mSl mKp mnNum mnNam mnBo mnBn hB0 (by first | assumption | exact vin_d (by decide) | exact vp_in_nI (by omega) (by decide) | decide | omega)) hK hP hD hE hS (hB0 0 _ rfl) rfl rfl rfl hl.1 (Nat.le_of_ble_eq_true rfl) rfl rfl ⟨(Nat.le_of_ble_eq_true rfl), (Nat.le_of_ble_eq_true rfl)⟩ ⟨(Nat.le_of_ble_eq_true rfl), (Nat.le_of_ble_eq_true rfl)⟩ dX12_pass_15) hS rfl (fun w1 H locs hQ hP hD hS => ?_)
    have hF := hF.trans hQ.2
    have hB0 : Blk w1 k (cM D α k mTaped mErr mPpl mBts ((f_X12_keeps mUs mW mUn).2) mRa mSt mKi mWd mVal mLet mFin mNp mNb mOuts mWant mFnd mTape mNum mNam mFst mBnm mW ((f_X12_keeps mUs mW mUn).1) mSl mKp mnNum mnNam mnBo mnBn) := hQ.1
    refine lv_iconst (v := 0) S.1 S.2.1 dX12_pass_18 (by decide) ?_
    refine lv_istore_n (lv' := [(2, .int 0), (0, .ref (α (k))), (1, .int d)]) S.1 S.2.1 dX12_pass_19 rfl hl (by decide) rfl (fun ls hl => ?_)
    refine lv_iconst (v := 0) S.1 S.2.1 dX12_pass_20 (by decide) ?_
    refine lv_istore_n (lv' := [(3, .int 0), (2, .int 0), (0, .ref (α (k))), (1, .int d)]) S.1 S.2.1 dX12_pass_21 rfl hl (by decide) rfl (fun ls hl => ?_)
    have lp22 : ∀ (j n : Nat), n + j = d.toNatClampNeg → ∀ (wl : va_W) (H : Heap) (locs : List Loc) (ls : Array Slot), va_P D vwCl wl H → va_D A wl → va_S A s.heap H locs → Same w wl k 14 → Blk wl k (cM D α k mTaped mErr mPpl mBts ((f_X12_keeps mUs mW mUn).2) mRa mSt mKi mWd mVal mLet mFin mNp mNb mOuts mWant mFnd mTape mNum mNam mFst mBnm ((L_X12_pass_22 mPpl mBts mW n).2) ((f_X12_keeps mUs mW mUn).1) mSl mKp mnNum mnNam mnBo mnBn) → lv_has ls 4 [(3, .int (nI n)), (2, .int ((L_X12_pass_22 mPpl mBts mW n).1)), (0, .ref (α (k))), (1, .int d)] → W pg l en ({ frames := 3, cells := 0, slots := 0, locals := 69 } : Room) s mi ar below me co H locs 0 0 (MQ below (gQ D A (some (.int (f_X12_pass mPpl mBts mUs mW mUn d).1)) (fun w1 => Blk w1 k (cM D α k mTaped mErr mPpl mBts ((f_X12_pass mPpl mBts mUs mW mUn d).2.2.1) mRa mSt mKi mWd mVal mLet mFin mNp mNb mOuts mWant mFnd mTape mNum mNam mFst mBnm ((f_X12_pass mPpl mBts mUs mW mUn d).2.2.2) ((f_X12_pass mPpl mBts mUs mW mUn d).2.1) mSl mKp mnNum mnNam mnBo mnBn) ∧ Same w w1 k 14)) ar s 0 0 A) (F0 mi 22 ls []) := by
      intro j
      induction j with
      | zero =>
        intro n hn wl H locs ls hP hD hS hF hB0 hl
        have hn : d.toNatClampNeg = n := hn.symm
        subst hn
        refine lv_iload_n S.1 S.2.1 dX12_pass_22 rfl (lv_at hl 0 rfl) ?_
        refine lv_iload_n S.1 S.2.1 dX12_pass_23 rfl (lv_at hl 3 rfl) ?_
        refine lv_icmp_ge (tgt := 40) S.1 S.2.1 dX12_pass_24 (by decide) (fun (c2 : d ≤ (nI d.toNatClampNeg)) => ?_) (fun (c2 : ¬ d ≤ (nI d.toNatClampNeg)) => absurd c2 (lp_out (s := 0) ((Nat.max_eq_left (Nat.zero_le _)).symm)))
        refine lv_iload_n S.1 S.2.1 dX12_pass_40 rfl (lv_at hl 1 rfl) ?_
        have hf : (f_X12_pass mPpl mBts mUs mW mUn d) = ((L_X12_pass_22 mPpl mBts mW d.toNatClampNeg).1, (f_X12_keeps mUs mW mUn).1, (f_X12_keeps mUs mW mUn).2, (L_X12_pass_22 mPpl mBts mW d.toNatClampNeg).2) := cd_t c1
        exact g_iret S hr hlk hP hD hS (by rw [hf] <;> rfl) (⟨by rw [hf]; exact hB0, hF⟩) dX12_pass_41
      | succ j ih =>
        intro n hn wl H locs ls hP hD hS hF hB0 hl
        refine lv_iload_n S.1 S.2.1 dX12_pass_22 rfl (lv_at hl 0 rfl) ?_
        refine lv_iload_n S.1 S.2.1 dX12_pass_23 rfl (lv_at hl 3 rfl) ?_
        refine lv_icmp_ge (tgt := 40) S.1 S.2.1 dX12_pass_24 (by decide) (fun (c3 : d ≤ (nI n)) => absurd c3 (lp_in (s := 0) (rfl) hn)) (fun (c3 : ¬ d ≤ (nI n)) => ?_)
        refine lv_iload_n S.1 S.2.1 dX12_pass_27 rfl (lv_at hl 1 rfl) ?_
        refine lv_aload_n S.1 S.2.1 dX12_pass_28 rfl (lv_at hl 2 rfl) ?_
        refine g_aft0 (st1 := [.int ((f_X12_passes mPpl mBts ((L_X12_pass_22 mPpl mBts mW n).2)).1), .int ((L_X12_pass_22 mPpl mBts mW n).1)]) (g_V (As := []) (rest := [.int ((L_X12_pass_22 mPpl mBts mW n).1)]) S mi_X12_passes qw1743 (c_X12_passes l D A wl α (k) mTaped mErr mPpl mBts ((f_X12_keeps mUs mW mUn).2) mRa mSt mKi mWd mVal mLet mFin mNp mNb mOuts mWant mFnd mTape mNum mNam mFst mBnm ((L_X12_pass_22 mPpl mBts mW n).2) ((f_X12_keeps mUs mW mUn).1) mSl mKp mnNum mnNam mnBo mnBn hB0 (by first | assumption | exact vin_d (by decide) | exact vp_in_nI (by omega) (by decide) | decide | omega) (by first | assumption | exact vin_d (by decide) | exact vp_in_nI (by omega) (by decide) | decide | omega) (by exact pass_a hy1 hy2 hy3 _)) hK hP hD hE hS (hB0 0 _ rfl) rfl rfl rfl hl.1 (Nat.le_of_ble_eq_true rfl) rfl rfl ⟨(Nat.le_of_ble_eq_true rfl), (Nat.le_of_ble_eq_true rfl)⟩ ⟨(Nat.le_of_ble_eq_true rfl), (Nat.le_of_ble_eq_true rfl)⟩ dX12_pass_29) hS rfl (fun w2 H locs hQ hP hD hS => ?_)
        have hF := hF.trans hQ.2
        have hB0 : Blk w2 k (cM D α k mTaped mErr mPpl mBts ((f_X12_keeps mUs mW mUn).2) mRa mSt mKi mWd mVal mLet mFin mNp mNb mOuts mWant mFnd mTape mNum mNam mFst mBnm ((f_X12_passes mPpl mBts ((L_X12_pass_22 mPpl mBts mW n).2)).2) ((f_X12_keeps mUs mW mUn).1) mSl mKp mnNum mnNam mnBo mnBn) := hQ.1
        refine lv_iadd S.1 S.2.1 dX12_pass_32 ?_
        refine lv_istore_n (lv' := [(2, .int ((L_X12_pass_22 mPpl mBts mW n).1 + (f_X12_passes mPpl mBts ((L_X12_pass_22 mPpl mBts mW n).2)).1)), (3, .int (nI n)), (0, .ref (α (k))), (1, .int d)]) S.1 S.2.1 dX12_pass_33 rfl hl (by decide) rfl (fun ls hl => ?_)
        refine lv_iinc (v := (nI (n + 1))) (lv' := [(3, .int (nI (n + 1))), (2, .int ((L_X12_pass_22 mPpl mBts mW n).1 + (f_X12_passes mPpl mBts ((L_X12_pass_22 mPpl mBts mW n).2)).1)), (0, .ref (α (k))), (1, .int d)]) S.1 S.2.1 dX12_pass_34 hl (k := 1) rfl ((nI_succ n).symm) (by decide) rfl (fun ls hl => ?_)
        refine lv_goto (tgt := 22) S.1 S.2.1 dX12_pass_37 (by decide) ?_
        have hL : (L_X12_pass_22 mPpl mBts mW (n + 1)) = (((L_X12_pass_22 mPpl mBts mW n).1 + (f_X12_passes mPpl mBts ((L_X12_pass_22 mPpl mBts mW n).2)).1), (f_X12_passes mPpl mBts ((L_X12_pass_22 mPpl mBts mW n).2)).2) := (iter_s _ _ _).trans (rfl)
        refine ih (n + 1) (by omega) _ _ _ _ hP hD hS hF ?_ ?_
        · rw [hL]; exact hB0
        · rw [hL]; exact lv_sub hl [0, 1, 2, 3] rfl
    have hL0 : (L_X12_pass_22 mPpl mBts mW 0) = (0, mW) := iter_z _ _
    exact lp22 d.toNatClampNeg 0 (Nat.zero_add _) _ _ _ _ hP hD hS hF (by rw [hL0]; exact hB0) (by rw [hL0]; exact lv_sub hl [0, 1, 2, 3] rfl)
  · refine lv_iconst (v := (-1)) S.1 S.2.1 dX12_pass_12 (by decide) ?_
    have hf : (f_X12_pass mPpl mBts mUs mW mUn d) = ((-1), mUn, mUs, mW) := cd_f c1
    exact g_iret S hr hlk hP hD hS (by rw [hf] <;> rfl) (⟨by rw [hf]; exact hB0, hF⟩) dX12_pass_13
def S_X12_sail_34 (mUs : Int32) (mW : Nat → Int32) (mUn : Nat → Int32) : (Nat → Int32) × Int32 := (f_X12_keeps mUs mW mUn)
def S_X12_sail_76 (mW : Nat → Int32) (b : Int32) (n : Nat) (sn : Int32 × (Nat → Int32)) : (Nat → Int32) := (f_X12_sets (sn.2) (nI n) 1 b)
def L_X12_sail_42 (mW : Nat → Int32) (b : Int32) : Nat → Int32 × (Nat → Int32) := iter_ (fun n sn => (if (f_X12_of (sn.2) (nI n) 0) = b then (bif (f_X12_isAtSea (sn.2) (nI n)) then (sn.1, sn.2) else ((sn.1 + 1), (S_X12_sail_76 mW b n sn))) else (sn.1, sn.2))) (0, mW)
def S_X12_sail_92 (mPpl : Int32) (mW : Nat → Int32) (b : Int32) : (Nat → Int32) := (f_X12_setsBoat ((L_X12_sail_42 mW b mPpl.toNatClampNeg).2) b 0 1)
def S_X12_sail_106 (mPpl : Int32) (mW : Nat → Int32) (b : Int32) (d : Int32) : (Nat → Int32) := (f_X12_setsBoat (S_X12_sail_92 mPpl mW b) b 1 (((S_X12_sail_92 mPpl mW b) 0) + d))
def S_X12_sail_120 (mPpl : Int32) (mW : Nat → Int32) (b : Int32) (d : Int32) : (Nat → Int32) := (f_X12_setsBoat (S_X12_sail_106 mPpl mW b d) b 2 ((f_X12_ofBoat (S_X12_sail_106 mPpl mW b d) b 2) + 1))
def S_X12_sail_132 (mPpl : Int32) (mW : Nat → Int32) (b : Int32) (d : Int32) : (Nat → Int32) := (f_X12_tells (S_X12_sail_120 mPpl mW b d) 0 b (f_X12_ofBoat (S_X12_sail_120 mPpl mW b d) b 1))
def f_X12_sail (mPpl : Int32) (mBts : Int32) (mUs : Int32) (mW : Nat → Int32) (mUn : Nat → Int32) (b : Int32) (d : Int32) : Int32 × (Nat → Int32) × Int32 × (Nat → Int32) := (bif (f_X12_isBoat mBts b) then (bif (f_X12_in d.toInt64 1 99) then (bif (f_X12_isOut mW b) then ((-4), mUn, mUs, mW) else ((L_X12_sail_42 mW b mPpl.toNatClampNeg).1, (S_X12_sail_34 mUs mW mUn).1, (S_X12_sail_34 mUs mW mUn).2, (S_X12_sail_132 mPpl mW b d))) else ((-1), mUn, mUs, mW)) else ((-1), mUn, mUs, mW))
theorem sail_ne {mPpl b : Int32} {mW : Nat → Int32} (h : vp_in mPpl 21) {j : Nat} (hj : j < 9 ∨ 229 ≤ j) : (L_X12_sail_42 mW b mPpl.toNatClampNeg).2 j = mW j := by
  have hn := vin_lt h
  refine iter_inv (fun _ (s : Int32 × (Nat → Int32)) => s.2 j = mW j) rfl (fun n s hk hs => ?_) _ (Nat.le_refl _)
  show (ite _ (bif _ then _ else _) _ : Int32 × (Nat → Int32)).2 j = _
  split
  · cases f_X12_isAtSea s.2 (nI n)
    · exact (sets_ne (vp_in_nI (by omega) (by decide)) (vin_d (by decide)) hj).trans hs
    · exact hs
  · exact hs
set_option maxHeartbeats 4000000 in
set_option maxRecDepth 100000 in
theorem c_X12_sail (l : Launch) (D : va_G) (A : Nat → Prop) (w : va_W) (α : Nat → Nat) (k : Nat) (mTaped : Int32) (mErr : Int32) (mPpl : Int32) (mBts : Int32) (mUs : Int32) (mRa : Int32) (mSt : Int32) (mKi : Int32) (mWd : Int64) (mVal : Int32) (mLet : Int32) (mFin : Int32) (mNp : Int32) (mNb : Int32) (mOuts : Int32) (mWant : Int32) (mFnd : Int32) (mTape : Nat → Int32) (mNum : Nat → Int32) (mNam : Nat → Int32) (mFst : Nat → Int32) (mBnm : Nat → Int32) (mW : Nat → Int32) (mUn : Nat → Int32) (mSl : Nat → Int32) (mKp : Nat → Int32) (mnNum : Nat → Int32) (mnNam : Nat → Int32) (mnBo : Nat → Int32) (mnBn : Nat → Int32) (b : Int32) (d : Int32) (hB0 : Blk w k (cM D α k mTaped mErr mPpl mBts mUs mRa mSt mKi mWd mVal mLet mFin mNp mNb mOuts mWant mFnd mTape mNum mNam mFst mBnm mW mUn mSl mKp mnNum mnNam mnBo mnBn)) (hy0 : vp_in mUs 9) (hy1 : vp_in mPpl 21) (hy2 : vp_in mBts 7) (hy3 : vp_in (mW 8) 31) : Met l yX12_sail (ws_ yX12_sail cX12_sail 5 (some .int)) ({ frames := 2, cells := 0, slots := 0, locals := 46 }) (gPre D A [.ref (α (k)), .int b, .int d] w) (gQ D A (some (.int (f_X12_sail mPpl mBts mUs mW mUn b d).1)) (fun w1 => Blk w1 k (cM D α k mTaped mErr mPpl mBts ((f_X12_sail mPpl mBts mUs mW mUn b d).2.2.1) mRa mSt mKi mWd mVal mLet mFin mNp mNb mOuts mWant mFnd mTape mNum mNam mFst mBnm ((f_X12_sail mPpl mBts mUs mW mUn b d).2.2.2) ((f_X12_sail mPpl mBts mUs mW mUn b d).2.1) mSl mKp mnNum mnNam mnBo mnBn) ∧ Same w w1 k 14)) 0 0 A := by
  refine g_met [(0, .ref (α (k))), (1, .int b), (2, .int d)] (plainFor_of_name (by decide)) (Nat.le_of_ble_eq_true rfl) rfl (fun pg en s mi ar below me co ls S hK hP hD hE hS hr hlk hnm hl => ?_)
  have hF : Same w w k 14 := Same.rf
  have hpn := vin_lt (show vp_in mPpl 21 by assumption)
  refine lv_aload_n S.1 S.2.1 dX12_sail_0 rfl (lv_at hl 0 rfl) ?_
  refine lv_iload_n S.1 S.2.1 dX12_sail_1 rfl (lv_at hl 1 rfl) ?_
  refine g_aftR0 (st1 := [.int (b2i (f_X12_isBoat mBts b))]) (g_V (As := [.int b]) (rest := []) S mi_X12_isBoat qw1562 (c_X12_isBoat l D A w α (k) mTaped mErr mPpl mBts mUs mRa mSt mKi mWd mVal mLet mFin mNp mNb mOuts mWant mFnd mTape mNum mNam mFst mBnm mW mUn mSl mKp mnNum mnNam mnBo mnBn b hB0) hK hP hD hE hS (hB0 0 _ rfl) rfl rfl rfl hl.1 (Nat.le_of_ble_eq_true rfl) rfl rfl ⟨(Nat.le_of_ble_eq_true rfl), (Nat.le_of_ble_eq_true rfl)⟩ ⟨(Nat.le_of_ble_eq_true rfl), (Nat.le_of_ble_eq_true rfl)⟩ dX12_sail_2) hS rfl (fun locs hS => ?_)
  refine g_bifeq (b := (f_X12_isBoat mBts b)) (tgt := 20) S dX12_sail_5 (by decide) (fun (c1 : (f_X12_isBoat mBts b) = false) => ?_) (fun (c1 : (f_X12_isBoat mBts b) = true) => ?_)
  · refine lv_iconst (v := (-1)) S.1 S.2.1 dX12_sail_20 (by decide) ?_
    have hf : (f_X12_sail mPpl mBts mUs mW mUn b d) = ((-1), mUn, mUs, mW) := cd_f c1
    exact g_iret S hr hlk hP hD hS (by rw [hf] <;> rfl) (⟨by rw [hf]; exact hB0, hF⟩) dX12_sail_21
  · have hh1 := isBoat_in (by assumption) c1
    refine lv_iload_n S.1 S.2.1 dX12_sail_8 rfl (lv_at hl 2 rfl) ?_
    refine lv_i2l (v := d.toInt64) S.1 S.2.1 dX12_sail_9 rfl ?_
    refine lv_lconst (v := 1) S.1 S.2.1 dX12_sail_10 (by decide) ?_
    refine lv_ldc2 (v := 99) S.1 S.2.1 S.2.2.2.1 (S.2.2.2.2 _ qw1566) dX12_sail_11 ?_
    refine g_aftR0 (st1 := [.int (b2i (f_X12_in d.toInt64 1 99))]) (g_St (As := [.long d.toInt64, .long 1, .long 99]) (rest := []) S ms_X12_in qw1477 (c_X12_in l D A w α d.toInt64 1 99) hK hP hD hE hS rfl rfl hl.1 (Nat.le_of_ble_eq_true rfl) rfl rfl ⟨(Nat.le_of_ble_eq_true rfl), (Nat.le_of_ble_eq_true rfl)⟩ ⟨(Nat.le_of_ble_eq_true rfl), (Nat.le_of_ble_eq_true rfl)⟩ dX12_sail_14) hS rfl (fun locs hS => ?_)
    refine g_bifne (b := (f_X12_in d.toInt64 1 99)) (tgt := 22) S dX12_sail_17 (by decide) (fun (c2 : (f_X12_in d.toInt64 1 99) = true) => ?_) (fun (c2 : (f_X12_in d.toInt64 1 99) = false) => ?_)
    · refine lv_aload_n S.1 S.2.1 dX12_sail_22 rfl (lv_at hl 0 rfl) ?_
      refine lv_iload_n S.1 S.2.1 dX12_sail_23 rfl (lv_at hl 1 rfl) ?_
      refine g_aftR0 (st1 := [.int (b2i (f_X12_isOut mW b))]) (g_V (As := [.int b]) (rest := []) S mi_X12_isOut qw1567 (c_X12_isOut l D A w α (k) mTaped mErr mPpl mBts mUs mRa mSt mKi mWd mVal mLet mFin mNp mNb mOuts mWant mFnd mTape mNum mNam mFst mBnm mW mUn mSl mKp mnNum mnNam mnBo mnBn b hB0 (by first | assumption | exact vin_d (by decide) | exact vp_in_nI (by omega) (by decide) | decide | omega)) hK hP hD hE hS (hB0 0 _ rfl) rfl rfl rfl hl.1 (Nat.le_of_ble_eq_true rfl) rfl rfl ⟨(Nat.le_of_ble_eq_true rfl), (Nat.le_of_ble_eq_true rfl)⟩ ⟨(Nat.le_of_ble_eq_true rfl), (Nat.le_of_ble_eq_true rfl)⟩ dX12_sail_24) hS rfl (fun locs hS => ?_)
      refine g_bifeq (b := (f_X12_isOut mW b)) (tgt := 33) S dX12_sail_27 (by decide) (fun (c3 : (f_X12_isOut mW b) = false) => ?_) (fun (c3 : (f_X12_isOut mW b) = true) => ?_)
      · refine lv_aload_n S.1 S.2.1 dX12_sail_33 rfl (lv_at hl 0 rfl) ?_
        refine g_aft0 (st1 := []) (g_V (As := []) (rest := []) S mi_X12_keeps qw1575 (c_X12_keeps l D A w α (k) mTaped mErr mPpl mBts mUs mRa mSt mKi mWd mVal mLet mFin mNp mNb mOuts mWant mFnd mTape mNum mNam mFst mBnm mW mUn mSl mKp mnNum mnNam mnBo mnBn hB0 (by first | assumption | exact vin_d (by decide) | exact vp_in_nI (by omega) (by decide) | decide | omega)) hK hP hD hE hS (hB0 0 _ rfl) rfl rfl rfl hl.1 (Nat.le_of_ble_eq_true rfl) rfl rfl ⟨(Nat.le_of_ble_eq_true rfl), (Nat.le_of_ble_eq_true rfl)⟩ ⟨(Nat.le_of_ble_eq_true rfl), (Nat.le_of_ble_eq_true rfl)⟩ dX12_sail_34) hS rfl (fun w1 H locs hQ hP hD hS => ?_)
        have hF := hF.trans hQ.2
        have hB0 : Blk w1 k (cM D α k mTaped mErr mPpl mBts ((S_X12_sail_34 mUs mW mUn).2) mRa mSt mKi mWd mVal mLet mFin mNp mNb mOuts mWant mFnd mTape mNum mNam mFst mBnm mW ((S_X12_sail_34 mUs mW mUn).1) mSl mKp mnNum mnNam mnBo mnBn) := hQ.1
        refine lv_iconst (v := 0) S.1 S.2.1 dX12_sail_37 (by decide) ?_
        refine lv_istore_n (lv' := [(3, .int 0), (0, .ref (α (k))), (1, .int b), (2, .int d)]) S.1 S.2.1 dX12_sail_38 rfl hl (by decide) rfl (fun ls hl => ?_)
        refine lv_iconst (v := 0) S.1 S.2.1 dX12_sail_39 (by decide) ?_
        refine lv_istore (lv' := [(4, .int 0), (3, .int 0), (0, .ref (α (k))), (1, .int b), (2, .int d)]) S.1 S.2.1 dX12_sail_40 hl (by decide) rfl (fun ls hl => ?_)
        have lp42 : ∀ (j n : Nat), n + j = mPpl.toNatClampNeg → ∀ (wl : va_W) (H : Heap) (locs : List Loc) (ls : Array Slot), va_P D vwCl wl H → va_D A wl → va_S A s.heap H locs → Same w wl k 14 → Blk wl k (cM D α k mTaped mErr mPpl mBts ((S_X12_sail_34 mUs mW mUn).2) mRa mSt mKi mWd mVal mLet mFin mNp mNb mOuts mWant mFnd mTape mNum mNam mFst mBnm ((L_X12_sail_42 mW b n).2) ((S_X12_sail_34 mUs mW mUn).1) mSl mKp mnNum mnNam mnBo mnBn) → lv_has ls 5 [(4, .int (nI n)), (3, .int ((L_X12_sail_42 mW b n).1)), (0, .ref (α (k))), (1, .int b), (2, .int d)] → W pg l en ({ frames := 2, cells := 0, slots := 0, locals := 46 } : Room) s mi ar below me co H locs 0 0 (MQ below (gQ D A (some (.int (f_X12_sail mPpl mBts mUs mW mUn b d).1)) (fun w1 => Blk w1 k (cM D α k mTaped mErr mPpl mBts ((f_X12_sail mPpl mBts mUs mW mUn b d).2.2.1) mRa mSt mKi mWd mVal mLet mFin mNp mNb mOuts mWant mFnd mTape mNum mNam mFst mBnm ((f_X12_sail mPpl mBts mUs mW mUn b d).2.2.2) ((f_X12_sail mPpl mBts mUs mW mUn b d).2.1) mSl mKp mnNum mnNam mnBo mnBn) ∧ Same w w1 k 14)) ar s 0 0 A) (F0 mi 42 ls []) := by
          intro j
          induction j with
          | zero =>
            intro n hn wl H locs ls hP hD hS hF hB0 hl
            have hn : mPpl.toNatClampNeg = n := hn.symm
            subst hn
            refine lv_iload S.1 S.2.1 dX12_sail_42 (lv_at hl 0 rfl) ?_
            refine lv_aload_n S.1 S.2.1 dX12_sail_44 rfl (lv_at hl 2 rfl) ?_
            refine g_get (v := .int mPpl) S hK hP (hB0 0 _ rfl) rfl inX12 4 (by decide) qw1378 rfl dX12_sail_45 ?_
            refine lv_icmp_ge (tgt := 88) S.1 S.2.1 dX12_sail_48 (by decide) (fun (c4 : mPpl ≤ (nI mPpl.toNatClampNeg)) => ?_) (fun (c4 : ¬ mPpl ≤ (nI mPpl.toNatClampNeg)) => absurd c4 (lp_out (s := 0) ((Nat.max_eq_left (Nat.zero_le _)).symm)))
            refine lv_aload_n S.1 S.2.1 dX12_sail_88 rfl (lv_at hl 2 rfl) ?_
            refine lv_iload_n S.1 S.2.1 dX12_sail_89 rfl (lv_at hl 3 rfl) ?_
            refine lv_iconst (v := 0) S.1 S.2.1 dX12_sail_90 (by decide) ?_
            refine lv_iconst (v := 1) S.1 S.2.1 dX12_sail_91 (by decide) ?_
            refine g_aft0 (st1 := []) (g_V (As := [.int b, .int 0, .int 1]) (rest := []) S mi_X12_setsBoat qw1587 (c_X12_setsBoat l D A wl α (k) mTaped mErr mPpl mBts ((S_X12_sail_34 mUs mW mUn).2) mRa mSt mKi mWd mVal mLet mFin mNp mNb mOuts mWant mFnd mTape mNum mNam mFst mBnm ((L_X12_sail_42 mW b mPpl.toNatClampNeg).2) ((S_X12_sail_34 mUs mW mUn).1) mSl mKp mnNum mnNam mnBo mnBn b 0 1 hB0 (by first | assumption | exact vin_d (by decide) | exact vp_in_nI (by omega) (by decide) | decide | omega) (by first | assumption | exact vin_d (by decide) | exact vp_in_nI (by omega) (by decide) | decide | omega)) hK hP hD hE hS (hB0 0 _ rfl) rfl rfl rfl hl.1 (Nat.le_of_ble_eq_true rfl) rfl rfl ⟨(Nat.le_of_ble_eq_true rfl), (Nat.le_of_ble_eq_true rfl)⟩ ⟨(Nat.le_of_ble_eq_true rfl), (Nat.le_of_ble_eq_true rfl)⟩ dX12_sail_92) hS rfl (fun w2 H locs hQ hP hD hS => ?_)
            have hF := hF.trans hQ.2
            have hB0 : Blk w2 k (cM D α k mTaped mErr mPpl mBts ((S_X12_sail_34 mUs mW mUn).2) mRa mSt mKi mWd mVal mLet mFin mNp mNb mOuts mWant mFnd mTape mNum mNam mFst mBnm (S_X12_sail_92 mPpl mW b) ((S_X12_sail_34 mUs mW mUn).1) mSl mKp mnNum mnNam mnBo mnBn) := hQ.1
            refine lv_aload_n S.1 S.2.1 dX12_sail_95 rfl (lv_at hl 2 rfl) ?_
            refine lv_iload_n S.1 S.2.1 dX12_sail_96 rfl (lv_at hl 3 rfl) ?_
            refine lv_iconst (v := 1) S.1 S.2.1 dX12_sail_97 (by decide) ?_
            refine lv_aload_n S.1 S.2.1 dX12_sail_98 rfl (lv_at hl 2 rfl) ?_
            refine g_get (v := .ref (α (k + 6))) S hK hP (hB0 0 _ rfl) rfl inX12 9 (by decide) qw1383 rfl dX12_sail_99 ?_
            refine lv_iconst (v := 0) S.1 S.2.1 dX12_sail_102 (by decide) ?_
            refine g_iald S hK hP (hB0 6 _ rfl) (by first | assumption | exact vin_d (by decide) | exact vp_in_nI (by omega) (by decide) | decide) dX12_sail_103 ?_
            refine lv_iload_n S.1 S.2.1 dX12_sail_104 rfl (lv_at hl 4 rfl) ?_
            refine lv_iadd S.1 S.2.1 dX12_sail_105 ?_
            refine g_aft0 (st1 := []) (g_V (As := [.int b, .int 1, .int (((S_X12_sail_92 mPpl mW b) 0) + d)]) (rest := []) S mi_X12_setsBoat qw1587 (c_X12_setsBoat l D A w2 α (k) mTaped mErr mPpl mBts ((S_X12_sail_34 mUs mW mUn).2) mRa mSt mKi mWd mVal mLet mFin mNp mNb mOuts mWant mFnd mTape mNum mNam mFst mBnm (S_X12_sail_92 mPpl mW b) ((S_X12_sail_34 mUs mW mUn).1) mSl mKp mnNum mnNam mnBo mnBn b 1 (((S_X12_sail_92 mPpl mW b) 0) + d) hB0 (by first | assumption | exact vin_d (by decide) | exact vp_in_nI (by omega) (by decide) | decide | omega) (by first | assumption | exact vin_d (by decide) | exact vp_in_nI (by omega) (by decide) | decide | omega)) hK hP hD hE hS (hB0 0 _ rfl) rfl rfl rfl hl.1 (Nat.le_of_ble_eq_true rfl) rfl rfl ⟨(Nat.le_of_ble_eq_true rfl), (Nat.le_of_ble_eq_true rfl)⟩ ⟨(Nat.le_of_ble_eq_true rfl), (Nat.le_of_ble_eq_true rfl)⟩ dX12_sail_106) hS rfl (fun w3 H locs hQ hP hD hS => ?_)
            have hF := hF.trans hQ.2
            have hB0 : Blk w3 k (cM D α k mTaped mErr mPpl mBts ((S_X12_sail_34 mUs mW mUn).2) mRa mSt mKi mWd mVal mLet mFin mNp mNb mOuts mWant mFnd mTape mNum mNam mFst mBnm (S_X12_sail_106 mPpl mW b d) ((S_X12_sail_34 mUs mW mUn).1) mSl mKp mnNum mnNam mnBo mnBn) := hQ.1
            refine lv_aload_n S.1 S.2.1 dX12_sail_109 rfl (lv_at hl 2 rfl) ?_
            refine lv_iload_n S.1 S.2.1 dX12_sail_110 rfl (lv_at hl 3 rfl) ?_
            refine lv_iconst (v := 2) S.1 S.2.1 dX12_sail_111 (by decide) ?_
            refine lv_aload_n S.1 S.2.1 dX12_sail_112 rfl (lv_at hl 2 rfl) ?_
            refine lv_iload_n S.1 S.2.1 dX12_sail_113 rfl (lv_at hl 3 rfl) ?_
            refine lv_iconst (v := 2) S.1 S.2.1 dX12_sail_114 (by decide) ?_
            refine g_aftR0 (st1 := [.int (f_X12_ofBoat (S_X12_sail_106 mPpl mW b d) b 2), .int 2, .int b, .ref (α (k))]) (g_V (As := [.int b, .int 2]) (rest := [.int 2, .int b, .ref (α (k))]) S mi_X12_ofBoat qw1571 (c_X12_ofBoat l D A w3 α (k) mTaped mErr mPpl mBts ((S_X12_sail_34 mUs mW mUn).2) mRa mSt mKi mWd mVal mLet mFin mNp mNb mOuts mWant mFnd mTape mNum mNam mFst mBnm (S_X12_sail_106 mPpl mW b d) ((S_X12_sail_34 mUs mW mUn).1) mSl mKp mnNum mnNam mnBo mnBn b 2 hB0 (by first | assumption | exact vin_d (by decide) | exact vp_in_nI (by omega) (by decide) | decide | omega) (by first | assumption | exact vin_d (by decide) | exact vp_in_nI (by omega) (by decide) | decide | omega)) hK hP hD hE hS (hB0 0 _ rfl) rfl rfl rfl hl.1 (Nat.le_of_ble_eq_true rfl) rfl rfl ⟨(Nat.le_of_ble_eq_true rfl), (Nat.le_of_ble_eq_true rfl)⟩ ⟨(Nat.le_of_ble_eq_true rfl), (Nat.le_of_ble_eq_true rfl)⟩ dX12_sail_115) hS rfl (fun locs hS => ?_)
            refine lv_iconst (v := 1) S.1 S.2.1 dX12_sail_118 (by decide) ?_
            refine lv_iadd S.1 S.2.1 dX12_sail_119 ?_
            refine g_aft0 (st1 := []) (g_V (As := [.int b, .int 2, .int ((f_X12_ofBoat (S_X12_sail_106 mPpl mW b d) b 2) + 1)]) (rest := []) S mi_X12_setsBoat qw1587 (c_X12_setsBoat l D A w3 α (k) mTaped mErr mPpl mBts ((S_X12_sail_34 mUs mW mUn).2) mRa mSt mKi mWd mVal mLet mFin mNp mNb mOuts mWant mFnd mTape mNum mNam mFst mBnm (S_X12_sail_106 mPpl mW b d) ((S_X12_sail_34 mUs mW mUn).1) mSl mKp mnNum mnNam mnBo mnBn b 2 ((f_X12_ofBoat (S_X12_sail_106 mPpl mW b d) b 2) + 1) hB0 (by first | assumption | exact vin_d (by decide) | exact vp_in_nI (by omega) (by decide) | decide | omega) (by first | assumption | exact vin_d (by decide) | exact vp_in_nI (by omega) (by decide) | decide | omega)) hK hP hD hE hS (hB0 0 _ rfl) rfl rfl rfl hl.1 (Nat.le_of_ble_eq_true rfl) rfl rfl ⟨(Nat.le_of_ble_eq_true rfl), (Nat.le_of_ble_eq_true rfl)⟩ ⟨(Nat.le_of_ble_eq_true rfl), (Nat.le_of_ble_eq_true rfl)⟩ dX12_sail_120) hS rfl (fun w4 H locs hQ hP hD hS => ?_)
            have hF := hF.trans hQ.2
            have hB0 : Blk w4 k (cM D α k mTaped mErr mPpl mBts ((S_X12_sail_34 mUs mW mUn).2) mRa mSt mKi mWd mVal mLet mFin mNp mNb mOuts mWant mFnd mTape mNum mNam mFst mBnm (S_X12_sail_120 mPpl mW b d) ((S_X12_sail_34 mUs mW mUn).1) mSl mKp mnNum mnNam mnBo mnBn) := hQ.1
            refine lv_aload_n S.1 S.2.1 dX12_sail_123 rfl (lv_at hl 2 rfl) ?_
            refine lv_iconst (v := 0) S.1 S.2.1 dX12_sail_124 (by decide) ?_
            refine lv_iload_n S.1 S.2.1 dX12_sail_125 rfl (lv_at hl 3 rfl) ?_
            refine lv_aload_n S.1 S.2.1 dX12_sail_126 rfl (lv_at hl 2 rfl) ?_
            refine lv_iload_n S.1 S.2.1 dX12_sail_127 rfl (lv_at hl 3 rfl) ?_
            refine lv_iconst (v := 1) S.1 S.2.1 dX12_sail_128 (by decide) ?_
            refine g_aftR0 (st1 := [.int (f_X12_ofBoat (S_X12_sail_120 mPpl mW b d) b 1), .int b, .int 0, .ref (α (k))]) (g_V (As := [.int b, .int 1]) (rest := [.int b, .int 0, .ref (α (k))]) S mi_X12_ofBoat qw1571 (c_X12_ofBoat l D A w4 α (k) mTaped mErr mPpl mBts ((S_X12_sail_34 mUs mW mUn).2) mRa mSt mKi mWd mVal mLet mFin mNp mNb mOuts mWant mFnd mTape mNum mNam mFst mBnm (S_X12_sail_120 mPpl mW b d) ((S_X12_sail_34 mUs mW mUn).1) mSl mKp mnNum mnNam mnBo mnBn b 1 hB0 (by first | assumption | exact vin_d (by decide) | exact vp_in_nI (by omega) (by decide) | decide | omega) (by first | assumption | exact vin_d (by decide) | exact vp_in_nI (by omega) (by decide) | decide | omega)) hK hP hD hE hS (hB0 0 _ rfl) rfl rfl rfl hl.1 (Nat.le_of_ble_eq_true rfl) rfl rfl ⟨(Nat.le_of_ble_eq_true rfl), (Nat.le_of_ble_eq_true rfl)⟩ ⟨(Nat.le_of_ble_eq_true rfl), (Nat.le_of_ble_eq_true rfl)⟩ dX12_sail_129) hS rfl (fun locs hS => ?_)
            refine g_aft0 (st1 := []) (g_V (As := [.int 0, .int b, .int (f_X12_ofBoat (S_X12_sail_120 mPpl mW b d) b 1)]) (rest := []) S mi_X12_tells qw1591 (c_X12_tells l D A w4 α (k) mTaped mErr mPpl mBts ((S_X12_sail_34 mUs mW mUn).2) mRa mSt mKi mWd mVal mLet mFin mNp mNb mOuts mWant mFnd mTape mNum mNam mFst mBnm (S_X12_sail_120 mPpl mW b d) ((S_X12_sail_34 mUs mW mUn).1) mSl mKp mnNum mnNam mnBo mnBn 0 b (f_X12_ofBoat (S_X12_sail_120 mPpl mW b d) b 1) hB0 (by repeat (first | assumption | refine lg_sets ?_ (by first | assumption | exact vp_in_nI (by omega) (by decide)) (vin_d (by decide)) | refine lg_setsB ?_ (by first | assumption | exact vp_in_nI (by omega) (by decide)) (vin_d (by decide)) | refine lg_upd ?_ (by decide) | refine lg_tells ?_ | (rw [sail_ne hy1 (Or.inl (by decide))])))) hK hP hD hE hS (hB0 0 _ rfl) rfl rfl rfl hl.1 (Nat.le_of_ble_eq_true rfl) rfl rfl ⟨(Nat.le_of_ble_eq_true rfl), (Nat.le_of_ble_eq_true rfl)⟩ ⟨(Nat.le_of_ble_eq_true rfl), (Nat.le_of_ble_eq_true rfl)⟩ dX12_sail_132) hS rfl (fun w5 H locs hQ hP hD hS => ?_)
            have hF := hF.trans hQ.2
            have hB0 : Blk w5 k (cM D α k mTaped mErr mPpl mBts ((S_X12_sail_34 mUs mW mUn).2) mRa mSt mKi mWd mVal mLet mFin mNp mNb mOuts mWant mFnd mTape mNum mNam mFst mBnm (S_X12_sail_132 mPpl mW b d) ((S_X12_sail_34 mUs mW mUn).1) mSl mKp mnNum mnNam mnBo mnBn) := hQ.1
            refine lv_iload_n S.1 S.2.1 dX12_sail_135 rfl (lv_at hl 1 rfl) ?_
            have hf : (f_X12_sail mPpl mBts mUs mW mUn b d) = ((L_X12_sail_42 mW b mPpl.toNatClampNeg).1, (S_X12_sail_34 mUs mW mUn).1, (S_X12_sail_34 mUs mW mUn).2, (S_X12_sail_132 mPpl mW b d)) := (cd_t c1).trans ((cd_t c2).trans (cd_f c3))
            exact g_iret S hr hlk hP hD hS (by rw [hf] <;> rfl) (⟨by rw [hf]; exact hB0, hF⟩) dX12_sail_136
          | succ j ih =>
            intro n hn wl H locs ls hP hD hS hF hB0 hl
            refine lv_iload S.1 S.2.1 dX12_sail_42 (lv_at hl 0 rfl) ?_
            refine lv_aload_n S.1 S.2.1 dX12_sail_44 rfl (lv_at hl 2 rfl) ?_
            refine g_get (v := .int mPpl) S hK hP (hB0 0 _ rfl) rfl inX12 4 (by decide) qw1378 rfl dX12_sail_45 ?_
            refine lv_icmp_ge (tgt := 88) S.1 S.2.1 dX12_sail_48 (by decide) (fun (c5 : mPpl ≤ (nI n)) => absurd c5 (lp_in (s := 0) (rfl) hn)) (fun (c5 : ¬ mPpl ≤ (nI n)) => ?_)
            refine lv_aload_n S.1 S.2.1 dX12_sail_51 rfl (lv_at hl 2 rfl) ?_
            refine lv_iload S.1 S.2.1 dX12_sail_52 (lv_at hl 0 rfl) ?_
            refine lv_iconst (v := 0) S.1 S.2.1 dX12_sail_54 (by decide) ?_
            refine g_aftR0 (st1 := [.int (f_X12_of ((L_X12_sail_42 mW b n).2) (nI n) 0)]) (g_V (As := [.int (nI n), .int 0]) (rest := []) S mi_X12_of qw1579 (c_X12_of l D A wl α (k) mTaped mErr mPpl mBts ((S_X12_sail_34 mUs mW mUn).2) mRa mSt mKi mWd mVal mLet mFin mNp mNb mOuts mWant mFnd mTape mNum mNam mFst mBnm ((L_X12_sail_42 mW b n).2) ((S_X12_sail_34 mUs mW mUn).1) mSl mKp mnNum mnNam mnBo mnBn (nI n) 0 hB0 (by first | assumption | exact vin_d (by decide) | exact vp_in_nI (by omega) (by decide) | decide | omega) (by first | assumption | exact vin_d (by decide) | exact vp_in_nI (by omega) (by decide) | decide | omega)) hK hP hD hE hS (hB0 0 _ rfl) rfl rfl rfl hl.1 (Nat.le_of_ble_eq_true rfl) rfl rfl ⟨(Nat.le_of_ble_eq_true rfl), (Nat.le_of_ble_eq_true rfl)⟩ ⟨(Nat.le_of_ble_eq_true rfl), (Nat.le_of_ble_eq_true rfl)⟩ dX12_sail_55) hS rfl (fun locs hS => ?_)
            refine lv_iload_n S.1 S.2.1 dX12_sail_58 rfl (lv_at hl 3 rfl) ?_
            refine lv_icmp_ne (tgt := 82) S.1 S.2.1 dX12_sail_59 (by decide) (fun (c6 : ¬ (f_X12_of ((L_X12_sail_42 mW b n).2) (nI n) 0) = b) => ?_) (fun (c6 : (f_X12_of ((L_X12_sail_42 mW b n).2) (nI n) 0) = b) => ?_)
            · refine lv_iinc (v := (nI (n + 1))) (lv' := [(4, .int (nI (n + 1))), (3, .int ((L_X12_sail_42 mW b n).1)), (0, .ref (α (k))), (1, .int b), (2, .int d)]) S.1 S.2.1 dX12_sail_82 hl (k := 0) rfl ((nI_succ n).symm) (by decide) rfl (fun ls hl => ?_)
              refine lv_goto (tgt := 42) S.1 S.2.1 dX12_sail_85 (by decide) ?_
              have hL : (L_X12_sail_42 mW b (n + 1)) = ((L_X12_sail_42 mW b n).1, (L_X12_sail_42 mW b n).2) := (iter_s _ _ _).trans (if_neg c6)
              refine ih (n + 1) (by omega) _ _ _ _ hP hD hS hF ?_ ?_
              · rw [hL]; exact hB0
              · rw [hL]; exact lv_sub hl [0, 1, 2, 3, 4] rfl
            · refine lv_aload_n S.1 S.2.1 dX12_sail_62 rfl (lv_at hl 2 rfl) ?_
              refine lv_iload S.1 S.2.1 dX12_sail_63 (lv_at hl 0 rfl) ?_
              refine g_aftR0 (st1 := [.int (b2i (f_X12_isAtSea ((L_X12_sail_42 mW b n).2) (nI n)))]) (g_V (As := [.int (nI n)]) (rest := []) S mi_X12_isAtSea qw1583 (c_X12_isAtSea l D A wl α (k) mTaped mErr mPpl mBts ((S_X12_sail_34 mUs mW mUn).2) mRa mSt mKi mWd mVal mLet mFin mNp mNb mOuts mWant mFnd mTape mNum mNam mFst mBnm ((L_X12_sail_42 mW b n).2) ((S_X12_sail_34 mUs mW mUn).1) mSl mKp mnNum mnNam mnBo mnBn (nI n) hB0 (by first | assumption | exact vin_d (by decide) | exact vp_in_nI (by omega) (by decide) | decide | omega)) hK hP hD hE hS (hB0 0 _ rfl) rfl rfl rfl hl.1 (Nat.le_of_ble_eq_true rfl) rfl rfl ⟨(Nat.le_of_ble_eq_true rfl), (Nat.le_of_ble_eq_true rfl)⟩ ⟨(Nat.le_of_ble_eq_true rfl), (Nat.le_of_ble_eq_true rfl)⟩ dX12_sail_65) hS rfl (fun locs hS => ?_)
              refine g_bifne (b := (f_X12_isAtSea ((L_X12_sail_42 mW b n).2) (nI n))) (tgt := 82) S dX12_sail_68 (by decide) (fun (c7 : (f_X12_isAtSea ((L_X12_sail_42 mW b n).2) (nI n)) = true) => ?_) (fun (c7 : (f_X12_isAtSea ((L_X12_sail_42 mW b n).2) (nI n)) = false) => ?_)
              · refine lv_iinc (v := (nI (n + 1))) (lv' := [(4, .int (nI (n + 1))), (3, .int ((L_X12_sail_42 mW b n).1)), (0, .ref (α (k))), (1, .int b), (2, .int d)]) S.1 S.2.1 dX12_sail_82 hl (k := 0) rfl ((nI_succ n).symm) (by decide) rfl (fun ls hl => ?_)
                refine lv_goto (tgt := 42) S.1 S.2.1 dX12_sail_85 (by decide) ?_
                have hL : (L_X12_sail_42 mW b (n + 1)) = ((L_X12_sail_42 mW b n).1, (L_X12_sail_42 mW b n).2) := (iter_s _ _ _).trans ((if_pos c6).trans (cd_t c7))
                refine ih (n + 1) (by omega) _ _ _ _ hP hD hS hF ?_ ?_
                · rw [hL]; exact hB0
                · rw [hL]; exact lv_sub hl [0, 1, 2, 3, 4] rfl
              · refine lv_aload_n S.1 S.2.1 dX12_sail_71 rfl (lv_at hl 2 rfl) ?_
                refine lv_iload S.1 S.2.1 dX12_sail_72 (lv_at hl 0 rfl) ?_
                refine lv_iconst (v := 1) S.1 S.2.1 dX12_sail_74 (by decide) ?_
                refine lv_iload_n S.1 S.2.1 dX12_sail_75 rfl (lv_at hl 3 rfl) ?_
                refine g_aft0 (st1 := []) (g_V (As := [.int (nI n), .int 1, .int b]) (rest := []) S mi_X12_sets qw1362 (c_X12_sets l D A wl α (k) mTaped mErr mPpl mBts ((S_X12_sail_34 mUs mW mUn).2) mRa mSt mKi mWd mVal mLet mFin mNp mNb mOuts mWant mFnd mTape mNum mNam mFst mBnm ((L_X12_sail_42 mW b n).2) ((S_X12_sail_34 mUs mW mUn).1) mSl mKp mnNum mnNam mnBo mnBn (nI n) 1 b hB0 (by first | assumption | exact vin_d (by decide) | exact vp_in_nI (by omega) (by decide) | decide | omega) (by first | assumption | exact vin_d (by decide) | exact vp_in_nI (by omega) (by decide) | decide | omega)) hK hP hD hE hS (hB0 0 _ rfl) rfl rfl rfl hl.1 (Nat.le_of_ble_eq_true rfl) rfl rfl ⟨(Nat.le_of_ble_eq_true rfl), (Nat.le_of_ble_eq_true rfl)⟩ ⟨(Nat.le_of_ble_eq_true rfl), (Nat.le_of_ble_eq_true rfl)⟩ dX12_sail_76) hS rfl (fun w6 H locs hQ hP hD hS => ?_)
                have hF := hF.trans hQ.2
                have hB0 : Blk w6 k (cM D α k mTaped mErr mPpl mBts ((S_X12_sail_34 mUs mW mUn).2) mRa mSt mKi mWd mVal mLet mFin mNp mNb mOuts mWant mFnd mTape mNum mNam mFst mBnm (S_X12_sail_76 mW b n (L_X12_sail_42 mW b n)) ((S_X12_sail_34 mUs mW mUn).1) mSl mKp mnNum mnNam mnBo mnBn) := hQ.1
                refine lv_iinc (v := ((L_X12_sail_42 mW b n).1 + 1)) (lv' := [(3, .int ((L_X12_sail_42 mW b n).1 + 1)), (4, .int (nI n)), (0, .ref (α (k))), (1, .int b), (2, .int d)]) S.1 S.2.1 dX12_sail_79 hl (k := 1) rfl (rfl) (by decide) rfl (fun ls hl => ?_)
                refine lv_iinc (v := (nI (n + 1))) (lv' := [(4, .int (nI (n + 1))), (3, .int ((L_X12_sail_42 mW b n).1 + 1)), (0, .ref (α (k))), (1, .int b), (2, .int d)]) S.1 S.2.1 dX12_sail_82 hl (k := 1) rfl ((nI_succ n).symm) (by decide) rfl (fun ls hl => ?_)
                refine lv_goto (tgt := 42) S.1 S.2.1 dX12_sail_85 (by decide) ?_
                have hL : (L_X12_sail_42 mW b (n + 1)) = (((L_X12_sail_42 mW b n).1 + 1), (S_X12_sail_76 mW b n (L_X12_sail_42 mW b n))) := (iter_s _ _ _).trans ((if_pos c6).trans (cd_f c7))
                refine ih (n + 1) (by omega) _ _ _ _ hP hD hS hF ?_ ?_
                · rw [hL]; exact hB0
                · rw [hL]; exact lv_sub hl [0, 1, 2, 3, 4] rfl
        have hL0 : (L_X12_sail_42 mW b 0) = (0, mW) := iter_z _ _
        exact lp42 mPpl.toNatClampNeg 0 (Nat.zero_add _) _ _ _ _ hP hD hS hF (by rw [hL0]; exact hB0) (by rw [hL0]; exact lv_sub hl [0, 1, 2, 3, 4] rfl)
      · refine lv_bipush (v := (-4)) S.1 S.2.1 dX12_sail_30 (by decide) ?_
        have hf : (f_X12_sail mPpl mBts mUs mW mUn b d) = ((-4), mUn, mUs, mW) := (cd_t c1).trans ((cd_t c2).trans (cd_t c3))
        exact g_iret S hr hlk hP hD hS (by rw [hf] <;> rfl) (⟨by rw [hf]; exact hB0, hF⟩) dX12_sail_32
    · refine lv_iconst (v := (-1)) S.1 S.2.1 dX12_sail_20 (by decide) ?_
      have hf : (f_X12_sail mPpl mBts mUs mW mUn b d) = ((-1), mUn, mUs, mW) := (cd_t c1).trans (cd_f c2)
      exact g_iret S hr hlk hP hD hS (by rw [hf] <;> rfl) (⟨by rw [hf]; exact hB0, hF⟩) dX12_sail_21
def L_X12_open_32 (mW : Nat → Int32) : Nat → (Nat → Int32) := iter_ (fun n sn => (f_X12_isBackFromVote sn (nI n))) mW
def f_X12_open (mPpl : Int32) (mUs : Int32) (mW : Nat → Int32) (mUn : Nat → Int32) (b : Int32) : Int32 × (Nat → Int32) × Int32 × (Nat → Int32) := (bif (f_X12_in b.toInt64 2 4) then (bif (f_X12_isOpen mW) then ((-5), mUn, mUs, mW) else (((L_X12_open_32 mW mPpl.toNatClampNeg) 1), (f_X12_keeps mUs mW mUn).1, (f_X12_keeps mUs mW mUn).2, (f_X12_tells (upd (upd (upd (upd (upd (L_X12_open_32 mW mPpl.toNatClampNeg) 1 (((L_X12_open_32 mW mPpl.toNatClampNeg) 1) + 1)) 2 1) 3 b) 6 0) 7 0) 2 ((L_X12_open_32 mW mPpl.toNatClampNeg) 1) b))) else ((-1), mUn, mUs, mW))
theorem laidNo_ne {mW : Nat → Int32} {p : Int32} {j : Nat} (hp : vp_in p 20) (hj : j < 9 ∨ 229 ≤ j) : f_X12_isLaidNoMore mW p j = mW j :=
  (sets_ne hp (vin_d (by decide)) hj).trans ((sets_ne hp (vin_d (by decide)) hj).trans (sets_ne hp (vin_d (by decide)) hj))
theorem back_ne {mW : Nat → Int32} {p : Int32} {j : Nat} (hp : vp_in p 20) (hj : j < 9 ∨ 229 ≤ j) : f_X12_isBackFromVote mW p j = mW j := by
  unfold f_X12_isBackFromVote
  cases f_X12_isLaid (f_X12_sets mW p 4 0) p
  · exact sets_ne hp (vin_d (by decide)) hj
  · show (ite _ _ _ : Nat → Int32) j = _
    split
    · exact (laidNo_ne hp hj).trans ((sets_ne hp (vin_d (by decide)) hj).trans (sets_ne hp (vin_d (by decide)) hj))
    · exact (laidNo_ne hp hj).trans ((sets_ne hp (vin_d (by decide)) hj).trans (sets_ne hp (vin_d (by decide)) hj))
theorem open_ne {mPpl : Int32} {mW : Nat → Int32} (h : vp_in mPpl 21) {j : Nat} (hj : j < 9 ∨ 229 ≤ j) : L_X12_open_32 mW mPpl.toNatClampNeg j = mW j := by
  have hn := vin_lt h
  refine iter_inv (fun _ (s : Nat → Int32) => s j = mW j) rfl (fun n s hk hs => ?_) _ (Nat.le_refl _)
  exact (back_ne (vp_in_nI (by omega) (by decide)) hj).trans hs
set_option maxHeartbeats 4000000 in
set_option maxRecDepth 100000 in
theorem c_X12_open (l : Launch) (D : va_G) (A : Nat → Prop) (w : va_W) (α : Nat → Nat) (k : Nat) (mTaped : Int32) (mErr : Int32) (mPpl : Int32) (mBts : Int32) (mUs : Int32) (mRa : Int32) (mSt : Int32) (mKi : Int32) (mWd : Int64) (mVal : Int32) (mLet : Int32) (mFin : Int32) (mNp : Int32) (mNb : Int32) (mOuts : Int32) (mWant : Int32) (mFnd : Int32) (mTape : Nat → Int32) (mNum : Nat → Int32) (mNam : Nat → Int32) (mFst : Nat → Int32) (mBnm : Nat → Int32) (mW : Nat → Int32) (mUn : Nat → Int32) (mSl : Nat → Int32) (mKp : Nat → Int32) (mnNum : Nat → Int32) (mnNam : Nat → Int32) (mnBo : Nat → Int32) (mnBn : Nat → Int32) (b : Int32) (hB0 : Blk w k (cM D α k mTaped mErr mPpl mBts mUs mRa mSt mKi mWd mVal mLet mFin mNp mNb mOuts mWant mFnd mTape mNum mNam mFst mBnm mW mUn mSl mKp mnNum mnNam mnBo mnBn)) (hy0 : vp_in mUs 9) (hy1 : vp_in mPpl 21) (hy2 : vp_in (mW 8) 31) : Met l yX12_open (ws_ yX12_open cX12_open 3 (some .int)) ({ frames := 3, cells := 0, slots := 0, locals := 65 }) (gPre D A [.ref (α (k)), .int b] w) (gQ D A (some (.int (f_X12_open mPpl mUs mW mUn b).1)) (fun w1 => Blk w1 k (cM D α k mTaped mErr mPpl mBts ((f_X12_open mPpl mUs mW mUn b).2.2.1) mRa mSt mKi mWd mVal mLet mFin mNp mNb mOuts mWant mFnd mTape mNum mNam mFst mBnm ((f_X12_open mPpl mUs mW mUn b).2.2.2) ((f_X12_open mPpl mUs mW mUn b).2.1) mSl mKp mnNum mnNam mnBo mnBn) ∧ Same w w1 k 14)) 0 0 A := by
  refine g_met [(0, .ref (α (k))), (1, .int b)] (plainFor_of_name (by decide)) (Nat.le_of_ble_eq_true rfl) rfl (fun pg en s mi ar below me co ls S hK hP hD hE hS hr hlk hnm hl => ?_)
  have hF : Same w w k 14 := Same.rf
  have hpn := vin_lt (show vp_in mPpl 21 by assumption)
  refine lv_iload_n S.1 S.2.1 dX12_open_0 rfl (lv_at hl 1 rfl) ?_
  refine lv_i2l (v := b.toInt64) S.1 S.2.1 dX12_open_1 rfl ?_
  refine lv_ldc2 (v := 2) S.1 S.2.1 S.2.2.2.1 (S.2.2.2.2 _ qw1619) dX12_open_2 ?_
  refine lv_ldc2 (v := 4) S.1 S.2.1 S.2.2.2.1 (S.2.2.2.2 _ qw1620) dX12_open_5 ?_
  refine g_aftR0 (st1 := [.int (b2i (f_X12_in b.toInt64 2 4))]) (g_St (As := [.long b.toInt64, .long 2, .long 4]) (rest := []) S ms_X12_in qw1477 (c_X12_in l D A w α b.toInt64 2 4) hK hP hD hE hS rfl rfl hl.1 (Nat.le_of_ble_eq_true rfl) rfl rfl ⟨(Nat.le_of_ble_eq_true rfl), (Nat.le_of_ble_eq_true rfl)⟩ ⟨(Nat.le_of_ble_eq_true rfl), (Nat.le_of_ble_eq_true rfl)⟩ dX12_open_8) hS rfl (fun locs hS => ?_)
  refine g_bifne (b := (f_X12_in b.toInt64 2 4)) (tgt := 16) S dX12_open_11 (by decide) (fun (c1 : (f_X12_in b.toInt64 2 4) = true) => ?_) (fun (c1 : (f_X12_in b.toInt64 2 4) = false) => ?_)
  · refine lv_aload_n S.1 S.2.1 dX12_open_16 rfl (lv_at hl 0 rfl) ?_
    refine g_aftR0 (st1 := [.int (b2i (f_X12_isOpen mW))]) (g_V (As := []) (rest := []) S mi_X12_isOpen qw1621 (c_X12_isOpen l D A w α (k) mTaped mErr mPpl mBts mUs mRa mSt mKi mWd mVal mLet mFin mNp mNb mOuts mWant mFnd mTape mNum mNam mFst mBnm mW mUn mSl mKp mnNum mnNam mnBo mnBn hB0) hK hP hD hE hS (hB0 0 _ rfl) rfl rfl rfl hl.1 (Nat.le_of_ble_eq_true rfl) rfl rfl ⟨(Nat.le_of_ble_eq_true rfl), (Nat.le_of_ble_eq_true rfl)⟩ ⟨(Nat.le_of_ble_eq_true rfl), (Nat.le_of_ble_eq_true rfl)⟩ dX12_open_17) hS rfl (fun locs hS => ?_)
    refine g_bifeq (b := (f_X12_isOpen mW)) (tgt := 26) S dX12_open_20 (by decide) (fun (c2 : (f_X12_isOpen mW) = false) => ?_) (fun (c2 : (f_X12_isOpen mW) = true) => ?_)
    · refine lv_aload_n S.1 S.2.1 dX12_open_26 rfl (lv_at hl 0 rfl) ?_
      refine g_aft0 (st1 := []) (g_V (As := []) (rest := []) S mi_X12_keeps qw1575 (c_X12_keeps l D A w α (k) mTaped mErr mPpl mBts mUs mRa mSt mKi mWd mVal mLet mFin mNp mNb mOuts mWant mFnd mTape mNum mNam mFst mBnm mW mUn mSl mKp mnNum mnNam mnBo mnBn hB0 (by first | assumption | exact vin_d (by decide) | exact vp_in_nI (by omega) (by decide) | decide | omega)) hK hP hD hE hS (hB0 0 _ rfl) rfl rfl rfl hl.1 (Nat.le_of_ble_eq_true rfl) rfl rfl ⟨(Nat.le_of_ble_eq_true rfl), (Nat.le_of_ble_eq_true rfl)⟩ ⟨(Nat.le_of_ble_eq_true rfl), (Nat.le_of_ble_eq_true rfl)⟩ dX12_open_27) hS rfl (fun w1 H locs hQ hP hD hS => ?_)
      have hF := hF.trans hQ.2
      have hB0 : Blk w1 k (cM D α k mTaped mErr mPpl mBts ((f_X12_keeps mUs mW mUn).2) mRa mSt mKi mWd mVal mLet mFin mNp mNb mOuts mWant mFnd mTape mNum mNam mFst mBnm mW ((f_X12_keeps mUs mW mUn).1) mSl mKp mnNum mnNam mnBo mnBn) := hQ.1
      refine lv_iconst (v := 0) S.1 S.2.1 dX12_open_30 (by decide) ?_
      refine lv_istore_n (lv' := [(2, .int 0), (0, .ref (α (k))), (1, .int b)]) S.1 S.2.1 dX12_open_31 rfl hl (by decide) rfl (fun ls hl => ?_)
      have lp32 : ∀ (j n : Nat), n + j = mPpl.toNatClampNeg → ∀ (wl : va_W) (H : Heap) (locs : List Loc) (ls : Array Slot), va_P D vwCl wl H → va_D A wl → va_S A s.heap H locs → Same w wl k 14 → Blk wl k (cM D α k mTaped mErr mPpl mBts ((f_X12_keeps mUs mW mUn).2) mRa mSt mKi mWd mVal mLet mFin mNp mNb mOuts mWant mFnd mTape mNum mNam mFst mBnm (L_X12_open_32 mW n) ((f_X12_keeps mUs mW mUn).1) mSl mKp mnNum mnNam mnBo mnBn) → lv_has ls 3 [(2, .int (nI n)), (0, .ref (α (k))), (1, .int b)] → W pg l en ({ frames := 3, cells := 0, slots := 0, locals := 65 } : Room) s mi ar below me co H locs 0 0 (MQ below (gQ D A (some (.int (f_X12_open mPpl mUs mW mUn b).1)) (fun w1 => Blk w1 k (cM D α k mTaped mErr mPpl mBts ((f_X12_open mPpl mUs mW mUn b).2.2.1) mRa mSt mKi mWd mVal mLet mFin mNp mNb mOuts mWant mFnd mTape mNum mNam mFst mBnm ((f_X12_open mPpl mUs mW mUn b).2.2.2) ((f_X12_open mPpl mUs mW mUn b).2.1) mSl mKp mnNum mnNam mnBo mnBn) ∧ Same w w1 k 14)) ar s 0 0 A) (F0 mi 32 ls []) := by
        intro j
        induction j with
        | zero =>
          intro n hn wl H locs ls hP hD hS hF hB0 hl
          have hn : mPpl.toNatClampNeg = n := hn.symm
          subst hn
          refine lv_iload_n S.1 S.2.1 dX12_open_32 rfl (lv_at hl 0 rfl) ?_
          refine lv_aload_n S.1 S.2.1 dX12_open_33 rfl (lv_at hl 1 rfl) ?_
          refine g_get (v := .int mPpl) S hK hP (hB0 0 _ rfl) rfl inX12 4 (by decide) qw1378 rfl dX12_open_34 ?_
          refine lv_icmp_ge (tgt := 51) S.1 S.2.1 dX12_open_37 (by decide) (fun (c3 : mPpl ≤ (nI mPpl.toNatClampNeg)) => ?_) (fun (c3 : ¬ mPpl ≤ (nI mPpl.toNatClampNeg)) => absurd c3 (lp_out (s := 0) ((Nat.max_eq_left (Nat.zero_le _)).symm)))
          refine lv_aload_n S.1 S.2.1 dX12_open_51 rfl (lv_at hl 1 rfl) ?_
          refine g_get (v := .ref (α (k + 6))) S hK hP (hB0 0 _ rfl) rfl inX12 9 (by decide) qw1383 rfl dX12_open_52 ?_
          refine lv_iconst (v := 1) S.1 S.2.1 dX12_open_55 (by decide) ?_
          refine g_iald S hK hP (hB0 6 _ rfl) (by first | assumption | exact vin_d (by decide) | exact vp_in_nI (by omega) (by decide) | decide) dX12_open_56 ?_
          refine lv_istore_n (lv' := [(2, .int ((L_X12_open_32 mW mPpl.toNatClampNeg) 1)), (0, .ref (α (k))), (1, .int b)]) S.1 S.2.1 dX12_open_57 rfl hl (by decide) rfl (fun ls hl => ?_)
          refine lv_aload_n S.1 S.2.1 dX12_open_58 rfl (lv_at hl 1 rfl) ?_
          refine g_get (v := .ref (α (k + 6))) S hK hP (hB0 0 _ rfl) rfl inX12 9 (by decide) qw1383 rfl dX12_open_59 ?_
          refine lv_iconst (v := 1) S.1 S.2.1 dX12_open_62 (by decide) ?_
          refine lv_dup2_11 S.1 S.2.1 dX12_open_63 rfl rfl ?_
          refine g_iald S hK hP (hB0 6 _ rfl) (by first | assumption | exact vin_d (by decide) | exact vp_in_nI (by omega) (by decide) | decide) dX12_open_64 ?_
          refine lv_iconst (v := 1) S.1 S.2.1 dX12_open_65 (by decide) ?_
          refine lv_iadd S.1 S.2.1 dX12_open_66 ?_
          refine g_iast S hK hP hD hS (hB0 6 _ rfl) (by first | assumption | exact vin_d (by decide) | exact vp_in_nI (by omega) (by decide) | decide) dX12_open_67 (fun w2 H locs hw hP hD hS => ?_)
          have hF := Same.set hF 6 hw (by decide)
          have hB0 : Blk w2 k (cM D α k mTaped mErr mPpl mBts ((f_X12_keeps mUs mW mUn).2) mRa mSt mKi mWd mVal mLet mFin mNp mNb mOuts mWant mFnd mTape mNum mNam mFst mBnm (upd (L_X12_open_32 mW mPpl.toNatClampNeg) 1 (((L_X12_open_32 mW mPpl.toNatClampNeg) 1) + 1)) ((f_X12_keeps mUs mW mUn).1) mSl mKp mnNum mnNam mnBo mnBn) := hB0.set 6 hw (Nat.le_of_ble_eq_true rfl) rfl
          refine lv_aload_n S.1 S.2.1 dX12_open_68 rfl (lv_at hl 1 rfl) ?_
          refine g_get (v := .ref (α (k + 6))) S hK hP (hB0 0 _ rfl) rfl inX12 9 (by decide) qw1383 rfl dX12_open_69 ?_
          refine lv_iconst (v := 2) S.1 S.2.1 dX12_open_72 (by decide) ?_
          refine lv_iconst (v := 1) S.1 S.2.1 dX12_open_73 (by decide) ?_
          refine g_iast S hK hP hD hS (hB0 6 _ rfl) (by first | assumption | exact vin_d (by decide) | exact vp_in_nI (by omega) (by decide) | decide) dX12_open_74 (fun w3 H locs hw hP hD hS => ?_)
          have hF := Same.set hF 6 hw (by decide)
          have hB0 : Blk w3 k (cM D α k mTaped mErr mPpl mBts ((f_X12_keeps mUs mW mUn).2) mRa mSt mKi mWd mVal mLet mFin mNp mNb mOuts mWant mFnd mTape mNum mNam mFst mBnm (upd (upd (L_X12_open_32 mW mPpl.toNatClampNeg) 1 (((L_X12_open_32 mW mPpl.toNatClampNeg) 1) + 1)) 2 1) ((f_X12_keeps mUs mW mUn).1) mSl mKp mnNum mnNam mnBo mnBn) := hB0.set 6 hw (Nat.le_of_ble_eq_true rfl) rfl
          refine lv_aload_n S.1 S.2.1 dX12_open_75 rfl (lv_at hl 1 rfl) ?_
          refine g_get (v := .ref (α (k + 6))) S hK hP (hB0 0 _ rfl) rfl inX12 9 (by decide) qw1383 rfl dX12_open_76 ?_
          refine lv_iconst (v := 3) S.1 S.2.1 dX12_open_79 (by decide) ?_
          refine lv_iload_n S.1 S.2.1 dX12_open_80 rfl (lv_at hl 2 rfl) ?_
          refine g_iast S hK hP hD hS (hB0 6 _ rfl) (by first | assumption | exact vin_d (by decide) | exact vp_in_nI (by omega) (by decide) | decide) dX12_open_81 (fun w4 H locs hw hP hD hS => ?_)
          have hF := Same.set hF 6 hw (by decide)
          have hB0 : Blk w4 k (cM D α k mTaped mErr mPpl mBts ((f_X12_keeps mUs mW mUn).2) mRa mSt mKi mWd mVal mLet mFin mNp mNb mOuts mWant mFnd mTape mNum mNam mFst mBnm (upd (upd (upd (L_X12_open_32 mW mPpl.toNatClampNeg) 1 (((L_X12_open_32 mW mPpl.toNatClampNeg) 1) + 1)) 2 1) 3 b) ((f_X12_keeps mUs mW mUn).1) mSl mKp mnNum mnNam mnBo mnBn) := hB0.set 6 hw (Nat.le_of_ble_eq_true rfl) rfl
          refine lv_aload_n S.1 S.2.1 dX12_open_82 rfl (lv_at hl 1 rfl) ?_
          refine g_get (v := .ref (α (k + 6))) S hK hP (hB0 0 _ rfl) rfl inX12 9 (by decide) qw1383 rfl dX12_open_83 ?_
          refine lv_bipush (v := 6) S.1 S.2.1 dX12_open_86 (by decide) ?_
          refine lv_iconst (v := 0) S.1 S.2.1 dX12_open_88 (by decide) ?_
          refine g_iast S hK hP hD hS (hB0 6 _ rfl) (by first | assumption | exact vin_d (by decide) | exact vp_in_nI (by omega) (by decide) | decide) dX12_open_89 (fun w5 H locs hw hP hD hS => ?_)
          have hF := Same.set hF 6 hw (by decide)
          have hB0 : Blk w5 k (cM D α k mTaped mErr mPpl mBts ((f_X12_keeps mUs mW mUn).2) mRa mSt mKi mWd mVal mLet mFin mNp mNb mOuts mWant mFnd mTape mNum mNam mFst mBnm (upd (upd (upd (upd (L_X12_open_32 mW mPpl.toNatClampNeg) 1 (((L_X12_open_32 mW mPpl.toNatClampNeg) 1) + 1)) 2 1) 3 b) 6 0) ((f_X12_keeps mUs mW mUn).1) mSl mKp mnNum mnNam mnBo mnBn) := hB0.set 6 hw (Nat.le_of_ble_eq_true rfl) rfl
          refine lv_aload_n S.1 S.2.1 dX12_open_90 rfl (lv_at hl 1 rfl) ?_
          refine g_get (v := .ref (α (k + 6))) S hK hP (hB0 0 _ rfl) rfl inX12 9 (by decide) qw1383 rfl dX12_open_91 ?_
          refine lv_bipush (v := 7) S.1 S.2.1 dX12_open_94 (by decide) ?_
          refine lv_iconst (v := 0) S.1 S.2.1 dX12_open_96 (by decide) ?_
          refine g_iast S hK hP hD hS (hB0 6 _ rfl) (by first | assumption | exact vin_d (by decide) | exact vp_in_nI (by omega) (by decide) | decide) dX12_open_97 (fun w6 H locs hw hP hD hS => ?_)
          have hF := Same.set hF 6 hw (by decide)
          have hB0 : Blk w6 k (cM D α k mTaped mErr mPpl mBts ((f_X12_keeps mUs mW mUn).2) mRa mSt mKi mWd mVal mLet mFin mNp mNb mOuts mWant mFnd mTape mNum mNam mFst mBnm (upd (upd (upd (upd (upd (L_X12_open_32 mW mPpl.toNatClampNeg) 1 (((L_X12_open_32 mW mPpl.toNatClampNeg) 1) + 1)) 2 1) 3 b) 6 0) 7 0) ((f_X12_keeps mUs mW mUn).1) mSl mKp mnNum mnNam mnBo mnBn) := hB0.set 6 hw (Nat.le_of_ble_eq_true rfl) rfl
          refine lv_aload_n S.1 S.2.1 dX12_open_98 rfl (lv_at hl 1 rfl) ?_
          refine lv_iconst (v := 2) S.1 S.2.1 dX12_open_99 (by decide) ?_
          refine lv_iload_n S.1 S.2.1 dX12_open_100 rfl (lv_at hl 0 rfl) ?_
          refine lv_iload_n S.1 S.2.1 dX12_open_101 rfl (lv_at hl 2 rfl) ?_
          refine g_aft0 (st1 := []) (g_V (As := [.int 2, .int ((L_X12_open_32 mW mPpl.toNatClampNeg) 1), .int b]) (rest := []) S mi_X12_tells qw1591 (c_X12_tells l D A w6 α (k) mTaped mErr mPpl mBts ((f_X12_keeps mUs mW mUn).2) mRa mSt mKi mWd mVal mLet mFin mNp mNb mOuts mWant mFnd mTape mNum mNam mFst mBnm (upd (upd (upd (upd (upd (L_X12_open_32 mW mPpl.toNatClampNeg) 1 (((L_X12_open_32 mW mPpl.toNatClampNeg) 1) + 1)) 2 1) 3 b) 6 0) 7 0) ((f_X12_keeps mUs mW mUn).1) mSl mKp mnNum mnNam mnBo mnBn 2 ((L_X12_open_32 mW mPpl.toNatClampNeg) 1) b hB0 (by repeat (first | assumption | refine lg_sets ?_ (by first | assumption | exact vp_in_nI (by omega) (by decide)) (vin_d (by decide)) | refine lg_setsB ?_ (by first | assumption | exact vp_in_nI (by omega) (by decide)) (vin_d (by decide)) | refine lg_upd ?_ (by decide) | refine lg_tells ?_ | (rw [open_ne hy1 (Or.inl (by decide))])))) hK hP hD hE hS (hB0 0 _ rfl) rfl rfl rfl hl.1 (Nat.le_of_ble_eq_true rfl) rfl rfl ⟨(Nat.le_of_ble_eq_true rfl), (Nat.le_of_ble_eq_true rfl)⟩ ⟨(Nat.le_of_ble_eq_true rfl), (Nat.le_of_ble_eq_true rfl)⟩ dX12_open_102) hS rfl (fun w7 H locs hQ hP hD hS => ?_)
          have hF := hF.trans hQ.2
          have hB0 : Blk w7 k (cM D α k mTaped mErr mPpl mBts ((f_X12_keeps mUs mW mUn).2) mRa mSt mKi mWd mVal mLet mFin mNp mNb mOuts mWant mFnd mTape mNum mNam mFst mBnm (f_X12_tells (upd (upd (upd (upd (upd (L_X12_open_32 mW mPpl.toNatClampNeg) 1 (((L_X12_open_32 mW mPpl.toNatClampNeg) 1) + 1)) 2 1) 3 b) 6 0) 7 0) 2 ((L_X12_open_32 mW mPpl.toNatClampNeg) 1) b) ((f_X12_keeps mUs mW mUn).1) mSl mKp mnNum mnNam mnBo mnBn) := hQ.1
          refine lv_iload_n S.1 S.2.1 dX12_open_105 rfl (lv_at hl 0 rfl) ?_
          have hf : (f_X12_open mPpl mUs mW mUn b) = (((L_X12_open_32 mW mPpl.toNatClampNeg) 1), (f_X12_keeps mUs mW mUn).1, (f_X12_keeps mUs mW mUn).2, (f_X12_tells (upd (upd (upd (upd (upd (L_X12_open_32 mW mPpl.toNatClampNeg) 1 (((L_X12_open_32 mW mPpl.toNatClampNeg) 1) + 1)) 2 1) 3 b) 6 0) 7 0) 2 ((L_X12_open_32 mW mPpl.toNatClampNeg) 1) b)) := (cd_t c1).trans (cd_f c2)
          exact g_iret S hr hlk hP hD hS (by rw [hf] <;> rfl) (⟨by rw [hf]; exact hB0, hF⟩) dX12_open_106
        | succ j ih =>
          intro n hn wl H locs ls hP hD hS hF hB0 hl
          refine lv_iload_n S.1 S.2.1 dX12_open_32 rfl (lv_at hl 0 rfl) ?_
          refine lv_aload_n S.1 S.2.1 dX12_open_33 rfl (lv_at hl 1 rfl) ?_
          refine g_get (v := .int mPpl) S hK hP (hB0 0 _ rfl) rfl inX12 4 (by decide) qw1378 rfl dX12_open_34 ?_
          refine lv_icmp_ge (tgt := 51) S.1 S.2.1 dX12_open_37 (by decide) (fun (c4 : mPpl ≤ (nI n)) => absurd c4 (lp_in (s := 0) (rfl) hn)) (fun (c4 : ¬ mPpl ≤ (nI n)) => ?_)
          refine lv_aload_n S.1 S.2.1 dX12_open_40 rfl (lv_at hl 1 rfl) ?_
          refine lv_iload_n S.1 S.2.1 dX12_open_41 rfl (lv_at hl 0 rfl) ?_
          refine g_aft0 (st1 := []) (g_V (As := [.int (nI n)]) (rest := []) S mi_X12_isBackFromVote qw1625 (c_X12_isBackFromVote l D A wl α (k) mTaped mErr mPpl mBts ((f_X12_keeps mUs mW mUn).2) mRa mSt mKi mWd mVal mLet mFin mNp mNb mOuts mWant mFnd mTape mNum mNam mFst mBnm (L_X12_open_32 mW n) ((f_X12_keeps mUs mW mUn).1) mSl mKp mnNum mnNam mnBo mnBn (nI n) hB0 (by first | assumption | exact vin_d (by decide) | exact vp_in_nI (by omega) (by decide) | decide | omega)) hK hP hD hE hS (hB0 0 _ rfl) rfl rfl rfl hl.1 (Nat.le_of_ble_eq_true rfl) rfl rfl ⟨(Nat.le_of_ble_eq_true rfl), (Nat.le_of_ble_eq_true rfl)⟩ ⟨(Nat.le_of_ble_eq_true rfl), (Nat.le_of_ble_eq_true rfl)⟩ dX12_open_42) hS rfl (fun w8 H locs hQ hP hD hS => ?_)
          have hF := hF.trans hQ.2
          have hB0 : Blk w8 k (cM D α k mTaped mErr mPpl mBts ((f_X12_keeps mUs mW mUn).2) mRa mSt mKi mWd mVal mLet mFin mNp mNb mOuts mWant mFnd mTape mNum mNam mFst mBnm (f_X12_isBackFromVote (L_X12_open_32 mW n) (nI n)) ((f_X12_keeps mUs mW mUn).1) mSl mKp mnNum mnNam mnBo mnBn) := hQ.1
          refine lv_iinc (v := (nI (n + 1))) (lv' := [(2, .int (nI (n + 1))), (0, .ref (α (k))), (1, .int b)]) S.1 S.2.1 dX12_open_45 hl (k := 0) rfl ((nI_succ n).symm) (by decide) rfl (fun ls hl => ?_)
          refine lv_goto (tgt := 32) S.1 S.2.1 dX12_open_48 (by decide) ?_
          have hL : (L_X12_open_32 mW (n + 1)) = (f_X12_isBackFromVote (L_X12_open_32 mW n) (nI n)) := (iter_s _ _ _).trans (rfl)
          refine ih (n + 1) (by omega) _ _ _ _ hP hD hS hF ?_ ?_
          · rw [hL]; exact hB0
          · exact lv_sub hl [0, 1, 2] rfl
      have hL0 : (L_X12_open_32 mW 0) = mW := iter_z _ _
      exact lp32 mPpl.toNatClampNeg 0 (Nat.zero_add _) _ _ _ _ hP hD hS hF (by rw [hL0]; exact hB0) (lv_sub hl [0, 1, 2] rfl)
    · refine lv_bipush (v := (-5)) S.1 S.2.1 dX12_open_23 (by decide) ?_
      have hf : (f_X12_open mPpl mUs mW mUn b) = ((-5), mUn, mUs, mW) := (cd_t c1).trans (cd_t c2)
      exact g_iret S hr hlk hP hD hS (by rw [hf] <;> rfl) (⟨by rw [hf]; exact hB0, hF⟩) dX12_open_25
  · refine lv_iconst (v := (-1)) S.1 S.2.1 dX12_open_14 (by decide) ?_
    have hf : (f_X12_open mPpl mUs mW mUn b) = ((-1), mUn, mUs, mW) := cd_f c1
    exact g_iret S hr hlk hP hD hS (by rw [hf] <;> rfl) (⟨by rw [hf]; exact hB0, hF⟩) dX12_open_15
def S_X12_lay_18 (mUs : Int32) (mW : Nat → Int32) (mUn : Nat → Int32) : (Nat → Int32) × Int32 := (f_X12_keeps mUs mW mUn)
def S_X12_lay_25 (mW : Nat → Int32) (o : Int32) : (Nat → Int32) := (f_X12_sets mW o 5 2)
def S_X12_lay_33 (mW : Nat → Int32) (o : Int32) (b : Int32) : (Nat → Int32) := (f_X12_sets (S_X12_lay_25 mW o) o 8 b)
def S_X12_lay_46 (mW : Nat → Int32) (o : Int32) (b : Int32) : (Nat → Int32) := (f_X12_sets (S_X12_lay_33 mW o b) o 9 ((S_X12_lay_33 mW o b) 0))
def S_X12_lay_55 (mPpl : Int32) (mNum : Nat → Int32) (mW : Nat → Int32) (p : Int32) (o : Int32) (b : Int32) : (Nat → Int32) := (f_X12_sets (S_X12_lay_46 mW o b) o 10 (f_X12_would mPpl mNum mW p o b))
def J_X12_lay_69 (p : Int32) (o : Int32) : Int32 := (if p = o then 0 else 1)
def S_X12_lay_78 (mPpl : Int32) (mNum : Nat → Int32) (mW : Nat → Int32) (p : Int32) (o : Int32) (b : Int32) : (Nat → Int32) := (f_X12_sets (S_X12_lay_55 mPpl mNum mW p o b) p 4 ((f_X12_of (S_X12_lay_55 mPpl mNum mW p o b) p 4) + (J_X12_lay_69 p o)))
def S_X12_lay_96 (mPpl : Int32) (mNum : Nat → Int32) (mW : Nat → Int32) (p : Int32) (o : Int32) (b : Int32) : (Nat → Int32) := (f_X12_tells (upd (S_X12_lay_78 mPpl mNum mW p o b) 7 (((S_X12_lay_78 mPpl mNum mW p o b) 7) + 1)) 3 o b)
def f_X12_lay (mPpl : Int32) (mUs : Int32) (mNum : Nat → Int32) (mW : Nat → Int32) (mUn : Nat → Int32) (p : Int32) (o : Int32) (b : Int32) : Int32 × (Nat → Int32) × Int32 × (Nat → Int32) := (if 0 ≤ (f_X12_would mPpl mNum mW p o b) then ((f_X12_ones (f_X12_setIn mPpl (S_X12_lay_96 mPpl mNum mW p o b) b)), (S_X12_lay_18 mUs mW mUn).1, (S_X12_lay_18 mUs mW mUn).2, (S_X12_lay_96 mPpl mNum mW p o b)) else ((f_X12_would mPpl mNum mW p o b), mUn, mUs, mW))
theorem would_in {mPpl p o b : Int32} {mNum mW : Nat → Int32} (h : vp_in mPpl 21) (c : 0 ≤ f_X12_would mPpl mNum mW p o b) : vp_in p 20 ∧ vp_in o 20 := by
  unfold f_X12_would at c
  cases h1 : f_X12_isPerson mPpl p
  · rw [h1] at c; exact absurd c (by decide)
  · cases h2 : f_X12_isPerson mPpl o
    · rw [h1, h2] at c; exact absurd c (by decide)
    · exact ⟨isPerson_in h h1, isPerson_in h h2⟩
set_option maxHeartbeats 4000000 in
set_option maxRecDepth 100000 in
theorem c_X12_lay (l : Launch) (D : va_G) (A : Nat → Prop) (w : va_W) (α : Nat → Nat) (k : Nat) (mTaped : Int32) (mErr : Int32) (mPpl : Int32) (mBts : Int32) (mUs : Int32) (mRa : Int32) (mSt : Int32) (mKi : Int32) (mWd : Int64) (mVal : Int32) (mLet : Int32) (mFin : Int32) (mNp : Int32) (mNb : Int32) (mOuts : Int32) (mWant : Int32) (mFnd : Int32) (mTape : Nat → Int32) (mNum : Nat → Int32) (mNam : Nat → Int32) (mFst : Nat → Int32) (mBnm : Nat → Int32) (mW : Nat → Int32) (mUn : Nat → Int32) (mSl : Nat → Int32) (mKp : Nat → Int32) (mnNum : Nat → Int32) (mnNam : Nat → Int32) (mnBo : Nat → Int32) (mnBn : Nat → Int32) (p : Int32) (o : Int32) (b : Int32) (hB0 : Blk w k (cM D α k mTaped mErr mPpl mBts mUs mRa mSt mKi mWd mVal mLet mFin mNp mNb mOuts mWant mFnd mTape mNum mNam mFst mBnm mW mUn mSl mKp mnNum mnNam mnBo mnBn)) (hy0 : vp_in mUs 9) (hy1 : vp_in mPpl 21) (hy2 : vp_in (mW 8) 31) : Met l yX12_lay (ws_ yX12_lay cX12_lay 5 (some .int)) ({ frames := 4, cells := 0, slots := 0, locals := 90 }) (gPre D A [.ref (α (k)), .int p, .int o, .int b] w) (gQ D A (some (.int (f_X12_lay mPpl mUs mNum mW mUn p o b).1)) (fun w1 => Blk w1 k (cM D α k mTaped mErr mPpl mBts ((f_X12_lay mPpl mUs mNum mW mUn p o b).2.2.1) mRa mSt mKi mWd mVal mLet mFin mNp mNb mOuts mWant mFnd mTape mNum mNam mFst mBnm ((f_X12_lay mPpl mUs mNum mW mUn p o b).2.2.2) ((f_X12_lay mPpl mUs mNum mW mUn p o b).2.1) mSl mKp mnNum mnNam mnBo mnBn) ∧ Same w w1 k 14)) 0 0 A := by
  refine g_met [(0, .ref (α (k))), (1, .int p), (2, .int o), (3, .int b)] (plainFor_of_name (by decide)) (Nat.le_of_ble_eq_true rfl) rfl (fun pg en s mi ar below me co ls S hK hP hD hE hS hr hlk hnm hl => ?_)
  have hF : Same w w k 14 := Same.rf
  refine lv_aload_n S.1 S.2.1 dX12_lay_0 rfl (lv_at hl 0 rfl) ?_
  refine lv_iload_n S.1 S.2.1 dX12_lay_1 rfl (lv_at hl 1 rfl) ?_
  refine lv_iload_n S.1 S.2.1 dX12_lay_2 rfl (lv_at hl 2 rfl) ?_
  refine lv_iload_n S.1 S.2.1 dX12_lay_3 rfl (lv_at hl 3 rfl) ?_
  refine g_aftR0 (st1 := [.int (f_X12_would mPpl mNum mW p o b)]) (g_V (As := [.int p, .int o, .int b]) (rest := []) S mi_X12_would qw1656 (c_X12_would l D A w α (k) mTaped mErr mPpl mBts mUs mRa mSt mKi mWd mVal mLet mFin mNp mNb mOuts mWant mFnd mTape mNum mNam mFst mBnm mW mUn mSl mKp mnNum mnNam mnBo mnBn p o b hB0 (by first | assumption | exact vin_d (by decide) | exact vp_in_nI (by omega) (by decide) | decide | omega)) hK hP hD hE hS (hB0 0 _ rfl) rfl rfl rfl hl.1 (Nat.le_of_ble_eq_true rfl) rfl rfl ⟨(Nat.le_of_ble_eq_true rfl), (Nat.le_of_ble_eq_true rfl)⟩ ⟨(Nat.le_of_ble_eq_true rfl), (Nat.le_of_ble_eq_true rfl)⟩ dX12_lay_4) hS rfl (fun locs hS => ?_)
  refine lv_istore (lv' := [(4, .int (f_X12_would mPpl mNum mW p o b)), (0, .ref (α (k))), (1, .int p), (2, .int o), (3, .int b)]) S.1 S.2.1 dX12_lay_7 hl (by decide) rfl (fun ls hl => ?_)
  refine lv_iload S.1 S.2.1 dX12_lay_9 (lv_at hl 0 rfl) ?_
  refine lv_if_ge (tgt := 17) S.1 S.2.1 dX12_lay_11 (by decide) (fun (c1 : 0 ≤ (f_X12_would mPpl mNum mW p o b)) => ?_) (fun (c1 : ¬ 0 ≤ (f_X12_would mPpl mNum mW p o b)) => ?_)
  · obtain ⟨hwp, hwo⟩ := would_in hy1 c1
    refine lv_aload_n S.1 S.2.1 dX12_lay_17 rfl (lv_at hl 1 rfl) ?_
    refine g_aft0 (st1 := []) (g_V (As := []) (rest := []) S mi_X12_keeps qw1575 (c_X12_keeps l D A w α (k) mTaped mErr mPpl mBts mUs mRa mSt mKi mWd mVal mLet mFin mNp mNb mOuts mWant mFnd mTape mNum mNam mFst mBnm mW mUn mSl mKp mnNum mnNam mnBo mnBn hB0 (by first | assumption | exact vin_d (by decide) | exact vp_in_nI (by omega) (by decide) | decide | omega)) hK hP hD hE hS (hB0 0 _ rfl) rfl rfl rfl hl.1 (Nat.le_of_ble_eq_true rfl) rfl rfl ⟨(Nat.le_of_ble_eq_true rfl), (Nat.le_of_ble_eq_true rfl)⟩ ⟨(Nat.le_of_ble_eq_true rfl), (Nat.le_of_ble_eq_true rfl)⟩ dX12_lay_18) hS rfl (fun w1 H locs hQ hP hD hS => ?_)
    have hF := hF.trans hQ.2
    have hB0 : Blk w1 k (cM D α k mTaped mErr mPpl mBts ((S_X12_lay_18 mUs mW mUn).2) mRa mSt mKi mWd mVal mLet mFin mNp mNb mOuts mWant mFnd mTape mNum mNam mFst mBnm mW ((S_X12_lay_18 mUs mW mUn).1) mSl mKp mnNum mnNam mnBo mnBn) := hQ.1
    refine lv_aload_n S.1 S.2.1 dX12_lay_21 rfl (lv_at hl 1 rfl) ?_
    refine lv_iload_n S.1 S.2.1 dX12_lay_22 rfl (lv_at hl 3 rfl) ?_
    refine lv_iconst (v := 5) S.1 S.2.1 dX12_lay_23 (by decide) ?_
    refine lv_iconst (v := 2) S.1 S.2.1 dX12_lay_24 (by decide) ?_
    refine g_aft0 (st1 := []) (g_V (As := [.int o, .int 5, .int 2]) (rest := []) S mi_X12_sets qw1362 (c_X12_sets l D A w1 α (k) mTaped mErr mPpl mBts ((S_X12_lay_18 mUs mW mUn).2) mRa mSt mKi mWd mVal mLet mFin mNp mNb mOuts mWant mFnd mTape mNum mNam mFst mBnm mW ((S_X12_lay_18 mUs mW mUn).1) mSl mKp mnNum mnNam mnBo mnBn o 5 2 hB0 (by first | assumption | exact vin_d (by decide) | exact vp_in_nI (by omega) (by decide) | decide | omega) (by first | assumption | exact vin_d (by decide) | exact vp_in_nI (by omega) (by decide) | decide | omega)) hK hP hD hE hS (hB0 0 _ rfl) rfl rfl rfl hl.1 (Nat.le_of_ble_eq_true rfl) rfl rfl ⟨(Nat.le_of_ble_eq_true rfl), (Nat.le_of_ble_eq_true rfl)⟩ ⟨(Nat.le_of_ble_eq_true rfl), (Nat.le_of_ble_eq_true rfl)⟩ dX12_lay_25) hS rfl (fun w2 H locs hQ hP hD hS => ?_)
    have hF := hF.trans hQ.2
    have hB0 : Blk w2 k (cM D α k mTaped mErr mPpl mBts ((S_X12_lay_18 mUs mW mUn).2) mRa mSt mKi mWd mVal mLet mFin mNp mNb mOuts mWant mFnd mTape mNum mNam mFst mBnm (S_X12_lay_25 mW o) ((S_X12_lay_18 mUs mW mUn).1) mSl mKp mnNum mnNam mnBo mnBn) := hQ.1
    refine lv_aload_n S.1 S.2.1 dX12_lay_28 rfl (lv_at hl 1 rfl) ?_
    refine lv_iload_n S.1 S.2.1 dX12_lay_29 rfl (lv_at hl 3 rfl) ?_
    refine lv_bipush (v := 8) S.1 S.2.1 dX12_lay_30 (by decide) ?_
    refine lv_iload_n S.1 S.2.1 dX12_lay_32 rfl (lv_at hl 4 rfl) ?_
    refine g_aft0 (st1 := []) (g_V (As := [.int o, .int 8, .int b]) (rest := []) S mi_X12_sets qw1362 (c_X12_sets l D A w2 α (k) mTaped mErr mPpl mBts ((S_X12_lay_18 mUs mW mUn).2) mRa mSt mKi mWd mVal mLet mFin mNp mNb mOuts mWant mFnd mTape mNum mNam mFst mBnm (S_X12_lay_25 mW o) ((S_X12_lay_18 mUs mW mUn).1) mSl mKp mnNum mnNam mnBo mnBn o 8 b hB0 (by first | assumption | exact vin_d (by decide) | exact vp_in_nI (by omega) (by decide) | decide | omega) (by first | assumption | exact vin_d (by decide) | exact vp_in_nI (by omega) (by decide) | decide | omega)) hK hP hD hE hS (hB0 0 _ rfl) rfl rfl rfl hl.1 (Nat.le_of_ble_eq_true rfl) rfl rfl ⟨(Nat.le_of_ble_eq_true rfl), (Nat.le_of_ble_eq_true rfl)⟩ ⟨(Nat.le_of_ble_eq_true rfl), (Nat.le_of_ble_eq_true rfl)⟩ dX12_lay_33) hS rfl (fun w3 H locs hQ hP hD hS => ?_)
    have hF := hF.trans hQ.2
    have hB0 : Blk w3 k (cM D α k mTaped mErr mPpl mBts ((S_X12_lay_18 mUs mW mUn).2) mRa mSt mKi mWd mVal mLet mFin mNp mNb mOuts mWant mFnd mTape mNum mNam mFst mBnm (S_X12_lay_33 mW o b) ((S_X12_lay_18 mUs mW mUn).1) mSl mKp mnNum mnNam mnBo mnBn) := hQ.1
    refine lv_aload_n S.1 S.2.1 dX12_lay_36 rfl (lv_at hl 1 rfl) ?_
    refine lv_iload_n S.1 S.2.1 dX12_lay_37 rfl (lv_at hl 3 rfl) ?_
    refine lv_bipush (v := 9) S.1 S.2.1 dX12_lay_38 (by decide) ?_
    refine lv_aload_n S.1 S.2.1 dX12_lay_40 rfl (lv_at hl 1 rfl) ?_
    refine g_get (v := .ref (α (k + 6))) S hK hP (hB0 0 _ rfl) rfl inX12 9 (by decide) qw1383 rfl dX12_lay_41 ?_
    refine lv_iconst (v := 0) S.1 S.2.1 dX12_lay_44 (by decide) ?_
    refine g_iald S hK hP (hB0 6 _ rfl) (by first | assumption | exact vin_d (by decide) | exact vp_in_nI (by omega) (by decide) | decide) dX12_lay_45 ?_
    refine g_aft0 (st1 := []) (g_V (As := [.int o, .int 9, .int ((S_X12_lay_33 mW o b) 0)]) (rest := []) S mi_X12_sets qw1362 (c_X12_sets l D A w3 α (k) mTaped mErr mPpl mBts ((S_X12_lay_18 mUs mW mUn).2) mRa mSt mKi mWd mVal mLet mFin mNp mNb mOuts mWant mFnd mTape mNum mNam mFst mBnm (S_X12_lay_33 mW o b) ((S_X12_lay_18 mUs mW mUn).1) mSl mKp mnNum mnNam mnBo mnBn o 9 ((S_X12_lay_33 mW o b) 0) hB0 (by first | assumption | exact vin_d (by decide) | exact vp_in_nI (by omega) (by decide) | decide | omega) (by first | assumption | exact vin_d (by decide) | exact vp_in_nI (by omega) (by decide) | decide | omega)) hK hP hD hE hS (hB0 0 _ rfl) rfl rfl rfl hl.1 (Nat.le_of_ble_eq_true rfl) rfl rfl ⟨(Nat.le_of_ble_eq_true rfl), (Nat.le_of_ble_eq_true rfl)⟩ ⟨(Nat.le_of_ble_eq_true rfl), (Nat.le_of_ble_eq_true rfl)⟩ dX12_lay_46) hS rfl (fun w4 H locs hQ hP hD hS => ?_)
    have hF := hF.trans hQ.2
    have hB0 : Blk w4 k (cM D α k mTaped mErr mPpl mBts ((S_X12_lay_18 mUs mW mUn).2) mRa mSt mKi mWd mVal mLet mFin mNp mNb mOuts mWant mFnd mTape mNum mNam mFst mBnm (S_X12_lay_46 mW o b) ((S_X12_lay_18 mUs mW mUn).1) mSl mKp mnNum mnNam mnBo mnBn) := hQ.1
    refine lv_aload_n S.1 S.2.1 dX12_lay_49 rfl (lv_at hl 1 rfl) ?_
    refine lv_iload_n S.1 S.2.1 dX12_lay_50 rfl (lv_at hl 3 rfl) ?_
    refine lv_bipush (v := 10) S.1 S.2.1 dX12_lay_51 (by decide) ?_
    refine lv_iload S.1 S.2.1 dX12_lay_53 (lv_at hl 0 rfl) ?_
    refine g_aft0 (st1 := []) (g_V (As := [.int o, .int 10, .int (f_X12_would mPpl mNum mW p o b)]) (rest := []) S mi_X12_sets qw1362 (c_X12_sets l D A w4 α (k) mTaped mErr mPpl mBts ((S_X12_lay_18 mUs mW mUn).2) mRa mSt mKi mWd mVal mLet mFin mNp mNb mOuts mWant mFnd mTape mNum mNam mFst mBnm (S_X12_lay_46 mW o b) ((S_X12_lay_18 mUs mW mUn).1) mSl mKp mnNum mnNam mnBo mnBn o 10 (f_X12_would mPpl mNum mW p o b) hB0 (by first | assumption | exact vin_d (by decide) | exact vp_in_nI (by omega) (by decide) | decide | omega) (by first | assumption | exact vin_d (by decide) | exact vp_in_nI (by omega) (by decide) | decide | omega)) hK hP hD hE hS (hB0 0 _ rfl) rfl rfl rfl hl.1 (Nat.le_of_ble_eq_true rfl) rfl rfl ⟨(Nat.le_of_ble_eq_true rfl), (Nat.le_of_ble_eq_true rfl)⟩ ⟨(Nat.le_of_ble_eq_true rfl), (Nat.le_of_ble_eq_true rfl)⟩ dX12_lay_55) hS rfl (fun w5 H locs hQ hP hD hS => ?_)
    have hF := hF.trans hQ.2
    have hB0 : Blk w5 k (cM D α k mTaped mErr mPpl mBts ((S_X12_lay_18 mUs mW mUn).2) mRa mSt mKi mWd mVal mLet mFin mNp mNb mOuts mWant mFnd mTape mNum mNam mFst mBnm (S_X12_lay_55 mPpl mNum mW p o b) ((S_X12_lay_18 mUs mW mUn).1) mSl mKp mnNum mnNam mnBo mnBn) := hQ.1
    refine lv_aload_n S.1 S.2.1 dX12_lay_58 rfl (lv_at hl 1 rfl) ?_
    refine lv_iload_n S.1 S.2.1 dX12_lay_59 rfl (lv_at hl 2 rfl) ?_
    refine lv_iconst (v := 4) S.1 S.2.1 dX12_lay_60 (by decide) ?_
    refine lv_aload_n S.1 S.2.1 dX12_lay_61 rfl (lv_at hl 1 rfl) ?_
    refine lv_iload_n S.1 S.2.1 dX12_lay_62 rfl (lv_at hl 2 rfl) ?_
    refine lv_iconst (v := 4) S.1 S.2.1 dX12_lay_63 (by decide) ?_
    refine g_aftR0 (st1 := [.int (f_X12_of (S_X12_lay_55 mPpl mNum mW p o b) p 4), .int 4, .int p, .ref (α (k))]) (g_V (As := [.int p, .int 4]) (rest := [.int 4, .int p, .ref (α (k))]) S mi_X12_of qw1579 (c_X12_of l D A w5 α (k) mTaped mErr mPpl mBts ((S_X12_lay_18 mUs mW mUn).2) mRa mSt mKi mWd mVal mLet mFin mNp mNb mOuts mWant mFnd mTape mNum mNam mFst mBnm (S_X12_lay_55 mPpl mNum mW p o b) ((S_X12_lay_18 mUs mW mUn).1) mSl mKp mnNum mnNam mnBo mnBn p 4 hB0 (by first | assumption | exact vin_d (by decide) | exact vp_in_nI (by omega) (by decide) | decide | omega) (by first | assumption | exact vin_d (by decide) | exact vp_in_nI (by omega) (by decide) | decide | omega)) hK hP hD hE hS (hB0 0 _ rfl) rfl rfl rfl hl.1 (Nat.le_of_ble_eq_true rfl) rfl rfl ⟨(Nat.le_of_ble_eq_true rfl), (Nat.le_of_ble_eq_true rfl)⟩ ⟨(Nat.le_of_ble_eq_true rfl), (Nat.le_of_ble_eq_true rfl)⟩ dX12_lay_64) hS rfl (fun locs hS => ?_)
    refine lv_iload_n S.1 S.2.1 dX12_lay_67 rfl (lv_at hl 2 rfl) ?_
    refine lv_iload_n S.1 S.2.1 dX12_lay_68 rfl (lv_at hl 3 rfl) ?_
    have jn69 : ∀ (wl : va_W) (H : Heap) (locs : List Loc) (ls : Array Slot), va_P D vwCl wl H → va_D A wl → va_S A s.heap H locs → Same w wl k 14 → Blk wl k (cM D α k mTaped mErr mPpl mBts ((S_X12_lay_18 mUs mW mUn).2) mRa mSt mKi mWd mVal mLet mFin mNp mNb mOuts mWant mFnd mTape mNum mNam mFst mBnm (S_X12_lay_55 mPpl mNum mW p o b) ((S_X12_lay_18 mUs mW mUn).1) mSl mKp mnNum mnNam mnBo mnBn) → lv_has ls 5 [(4, .int (f_X12_would mPpl mNum mW p o b)), (0, .ref (α (k))), (1, .int p), (2, .int o), (3, .int b)] → W pg l en ({ frames := 4, cells := 0, slots := 0, locals := 90 } : Room) s mi ar below me co H locs 0 0 (MQ below (gQ D A (some (.int (f_X12_lay mPpl mUs mNum mW mUn p o b).1)) (fun w1 => Blk w1 k (cM D α k mTaped mErr mPpl mBts ((f_X12_lay mPpl mUs mNum mW mUn p o b).2.2.1) mRa mSt mKi mWd mVal mLet mFin mNp mNb mOuts mWant mFnd mTape mNum mNam mFst mBnm ((f_X12_lay mPpl mUs mNum mW mUn p o b).2.2.2) ((f_X12_lay mPpl mUs mNum mW mUn p o b).2.1) mSl mKp mnNum mnNam mnBo mnBn) ∧ Same w w1 k 14)) ar s 0 0 A) (F0 mi 77 ls [.int (J_X12_lay_69 p o), .int (f_X12_of (S_X12_lay_55 mPpl mNum mW p o b) p 4), .int 4, .int p, .ref (α (k))]) := by
      intro wl H locs ls hP hD hS hF hB0 hl
      refine lv_iadd S.1 S.2.1 dX12_lay_77 ?_
      refine g_aft0 (st1 := []) (g_V (As := [.int p, .int 4, .int ((f_X12_of (S_X12_lay_55 mPpl mNum mW p o b) p 4) + (J_X12_lay_69 p o))]) (rest := []) S mi_X12_sets qw1362 (c_X12_sets l D A wl α (k) mTaped mErr mPpl mBts ((S_X12_lay_18 mUs mW mUn).2) mRa mSt mKi mWd mVal mLet mFin mNp mNb mOuts mWant mFnd mTape mNum mNam mFst mBnm (S_X12_lay_55 mPpl mNum mW p o b) ((S_X12_lay_18 mUs mW mUn).1) mSl mKp mnNum mnNam mnBo mnBn p 4 ((f_X12_of (S_X12_lay_55 mPpl mNum mW p o b) p 4) + (J_X12_lay_69 p o)) hB0 (by first | assumption | exact vin_d (by decide) | exact vp_in_nI (by omega) (by decide) | decide | omega) (by first | assumption | exact vin_d (by decide) | exact vp_in_nI (by omega) (by decide) | decide | omega)) hK hP hD hE hS (hB0 0 _ rfl) rfl rfl rfl hl.1 (Nat.le_of_ble_eq_true rfl) rfl rfl ⟨(Nat.le_of_ble_eq_true rfl), (Nat.le_of_ble_eq_true rfl)⟩ ⟨(Nat.le_of_ble_eq_true rfl), (Nat.le_of_ble_eq_true rfl)⟩ dX12_lay_78) hS rfl (fun w6 H locs hQ hP hD hS => ?_)
      have hF := hF.trans hQ.2
      have hB0 : Blk w6 k (cM D α k mTaped mErr mPpl mBts ((S_X12_lay_18 mUs mW mUn).2) mRa mSt mKi mWd mVal mLet mFin mNp mNb mOuts mWant mFnd mTape mNum mNam mFst mBnm (S_X12_lay_78 mPpl mNum mW p o b) ((S_X12_lay_18 mUs mW mUn).1) mSl mKp mnNum mnNam mnBo mnBn) := hQ.1
      refine lv_aload_n S.1 S.2.1 dX12_lay_81 rfl (lv_at hl 1 rfl) ?_
      refine g_get (v := .ref (α (k + 6))) S hK hP (hB0 0 _ rfl) rfl inX12 9 (by decide) qw1383 rfl dX12_lay_82 ?_
      refine lv_bipush (v := 7) S.1 S.2.1 dX12_lay_85 (by decide) ?_
      refine lv_dup2_11 S.1 S.2.1 dX12_lay_87 rfl rfl ?_
      refine g_iald S hK hP (hB0 6 _ rfl) (by first | assumption | exact vin_d (by decide) | exact vp_in_nI (by omega) (by decide) | decide) dX12_lay_88 ?_
      refine lv_iconst (v := 1) S.1 S.2.1 dX12_lay_89 (by decide) ?_
      refine lv_iadd S.1 S.2.1 dX12_lay_90 ?_
      refine g_iast S hK hP hD hS (hB0 6 _ rfl) (by first | assumption | exact vin_d (by decide) | exact vp_in_nI (by omega) (by decide) | decide) dX12_lay_91 (fun w7 H locs hw hP hD hS => ?_)
      have hF := Same.set hF 6 hw (by decide)
      have hB0 : Blk w7 k (cM D α k mTaped mErr mPpl mBts ((S_X12_lay_18 mUs mW mUn).2) mRa mSt mKi mWd mVal mLet mFin mNp mNb mOuts mWant mFnd mTape mNum mNam mFst mBnm (upd (S_X12_lay_78 mPpl mNum mW p o b) 7 (((S_X12_lay_78 mPpl mNum mW p o b) 7) + 1)) ((S_X12_lay_18 mUs mW mUn).1) mSl mKp mnNum mnNam mnBo mnBn) := hB0.set 6 hw (Nat.le_of_ble_eq_true rfl) rfl
      refine lv_aload_n S.1 S.2.1 dX12_lay_92 rfl (lv_at hl 1 rfl) ?_
      refine lv_iconst (v := 3) S.1 S.2.1 dX12_lay_93 (by decide) ?_
      refine lv_iload_n S.1 S.2.1 dX12_lay_94 rfl (lv_at hl 3 rfl) ?_
      refine lv_iload_n S.1 S.2.1 dX12_lay_95 rfl (lv_at hl 4 rfl) ?_
      refine g_aft0 (st1 := []) (g_V (As := [.int 3, .int o, .int b]) (rest := []) S mi_X12_tells qw1591 (c_X12_tells l D A w7 α (k) mTaped mErr mPpl mBts ((S_X12_lay_18 mUs mW mUn).2) mRa mSt mKi mWd mVal mLet mFin mNp mNb mOuts mWant mFnd mTape mNum mNam mFst mBnm (upd (S_X12_lay_78 mPpl mNum mW p o b) 7 (((S_X12_lay_78 mPpl mNum mW p o b) 7) + 1)) ((S_X12_lay_18 mUs mW mUn).1) mSl mKp mnNum mnNam mnBo mnBn 3 o b hB0 (by repeat (first | assumption | refine lg_sets ?_ (by first | assumption | exact vp_in_nI (by omega) (by decide)) (vin_d (by decide)) | refine lg_setsB ?_ (by first | assumption | exact vp_in_nI (by omega) (by decide)) (vin_d (by decide)) | refine lg_upd ?_ (by decide) | refine lg_tells ?_))) hK hP hD hE hS (hB0 0 _ rfl) rfl rfl rfl hl.1 (Nat.le_of_ble_eq_true rfl) rfl rfl ⟨(Nat.le_of_ble_eq_true rfl), (Nat.le_of_ble_eq_true rfl)⟩ ⟨(Nat.le_of_ble_eq_true rfl), (Nat.le_of_ble_eq_true rfl)⟩ dX12_lay_96) hS rfl (fun w8 H locs hQ hP hD hS => ?_)
      have hF := hF.trans hQ.2
      have hB0 : Blk w8 k (cM D α k mTaped mErr mPpl mBts ((S_X12_lay_18 mUs mW mUn).2) mRa mSt mKi mWd mVal mLet mFin mNp mNb mOuts mWant mFnd mTape mNum mNam mFst mBnm (S_X12_lay_96 mPpl mNum mW p o b) ((S_X12_lay_18 mUs mW mUn).1) mSl mKp mnNum mnNam mnBo mnBn) := hQ.1
      refine lv_aload_n S.1 S.2.1 dX12_lay_99 rfl (lv_at hl 1 rfl) ?_
      refine lv_iload_n S.1 S.2.1 dX12_lay_100 rfl (lv_at hl 4 rfl) ?_
      refine g_aftR0 (st1 := [.int (f_X12_setIn mPpl (S_X12_lay_96 mPpl mNum mW p o b) b)]) (g_V (As := [.int b]) (rest := []) S mi_X12_setIn qw1668 (c_X12_setIn l D A w8 α (k) mTaped mErr mPpl mBts ((S_X12_lay_18 mUs mW mUn).2) mRa mSt mKi mWd mVal mLet mFin mNp mNb mOuts mWant mFnd mTape mNum mNam mFst mBnm (S_X12_lay_96 mPpl mNum mW p o b) ((S_X12_lay_18 mUs mW mUn).1) mSl mKp mnNum mnNam mnBo mnBn b hB0 (by first | assumption | exact vin_d (by decide) | exact vp_in_nI (by omega) (by decide) | decide | omega)) hK hP hD hE hS (hB0 0 _ rfl) rfl rfl rfl hl.1 (Nat.le_of_ble_eq_true rfl) rfl rfl ⟨(Nat.le_of_ble_eq_true rfl), (Nat.le_of_ble_eq_true rfl)⟩ ⟨(Nat.le_of_ble_eq_true rfl), (Nat.le_of_ble_eq_true rfl)⟩ dX12_lay_101) hS rfl (fun locs hS => ?_)
      refine g_aftR0 (st1 := [.int (f_X12_ones (f_X12_setIn mPpl (S_X12_lay_96 mPpl mNum mW p o b) b))]) (g_St (As := [.int (f_X12_setIn mPpl (S_X12_lay_96 mPpl mNum mW p o b) b)]) (rest := []) S ms_X12_ones qw1645 (c_X12_ones l D A w8 α (f_X12_setIn mPpl (S_X12_lay_96 mPpl mNum mW p o b) b)) hK hP hD hE hS rfl rfl hl.1 (Nat.le_of_ble_eq_true rfl) rfl rfl ⟨(Nat.le_of_ble_eq_true rfl), (Nat.le_of_ble_eq_true rfl)⟩ ⟨(Nat.le_of_ble_eq_true rfl), (Nat.le_of_ble_eq_true rfl)⟩ dX12_lay_104) hS rfl (fun locs hS => ?_)
      have hf : (f_X12_lay mPpl mUs mNum mW mUn p o b) = ((f_X12_ones (f_X12_setIn mPpl (S_X12_lay_96 mPpl mNum mW p o b) b)), (S_X12_lay_18 mUs mW mUn).1, (S_X12_lay_18 mUs mW mUn).2, (S_X12_lay_96 mPpl mNum mW p o b)) := if_pos c1
      exact g_iret S hr hlk hP hD hS (by rw [hf] <;> rfl) (⟨by rw [hf]; exact hB0, hF⟩) dX12_lay_107
    refine lv_icmp_ne (tgt := 76) S.1 S.2.1 dX12_lay_69 (by decide) (fun (c2 : ¬ p = o) => ?_) (fun (c2 : p = o) => ?_)
    · refine lv_iconst (v := 1) S.1 S.2.1 dX12_lay_76 (by decide) ?_
      have hJ : (J_X12_lay_69 p o) = 1 := if_neg c2
      have qj := jn69
      rw [hJ] at qj
      exact qj _ _ _ _ hP hD hS hF hB0 (lv_sub hl [0, 1, 2, 3, 4] rfl)
    · refine lv_iconst (v := 0) S.1 S.2.1 dX12_lay_72 (by decide) ?_
      refine lv_goto (tgt := 77) S.1 S.2.1 dX12_lay_73 (by decide) ?_
      have hJ : (J_X12_lay_69 p o) = 0 := if_pos c2
      have qj := jn69
      rw [hJ] at qj
      exact qj _ _ _ _ hP hD hS hF hB0 (lv_sub hl [0, 1, 2, 3, 4] rfl)
  · refine lv_iload S.1 S.2.1 dX12_lay_14 (lv_at hl 0 rfl) ?_
    have hf : (f_X12_lay mPpl mUs mNum mW mUn p o b) = ((f_X12_would mPpl mNum mW p o b), mUn, mUs, mW) := if_neg c1
    exact g_iret S hr hlk hP hD hS (by rw [hf] <;> rfl) (⟨by rw [hf]; exact hB0, hF⟩) dX12_lay_16
def L_X12_strikes_7 (mW : Nat → Int32) (x : Int32) : Nat → (Nat → Int32) := iter_ (fun n sn => (if ((x >>> ((nI n) &&& 31)) &&& 1) = 1 then (f_X12_tells (f_X12_sets sn (nI n) 5 3) 4 (nI n) (f_X12_of (f_X12_sets sn (nI n) 5 3) (nI n) 10)) else sn)) mW
def f_X12_strikes (mPpl : Int32) (mBts : Int32) (mNum : Nat → Int32) (mW : Nat → Int32) (x : Int32) : (Nat → Int32) := (bif (f_X12_isOpen (L_X12_strikes_7 mW x mPpl.toNatClampNeg)) then (L_X12_strikes_7 mW x mPpl.toNatClampNeg) else (if (f_X12_resultNow mPpl mBts mNum (f_X12_keepsPast mPpl mBts mNum (L_X12_strikes_7 mW x mPpl.toNatClampNeg))) = (f_X12_resultNow mPpl mBts mNum mW) then (f_X12_keepsPast mPpl mBts mNum (L_X12_strikes_7 mW x mPpl.toNatClampNeg)) else (f_X12_tells (f_X12_keepsPast mPpl mBts mNum (L_X12_strikes_7 mW x mPpl.toNatClampNeg)) 7 (((f_X12_keepsPast mPpl mBts mNum (L_X12_strikes_7 mW x mPpl.toNatClampNeg)) 1) - 1) (f_X12_orMinus (f_X12_resultNow mPpl mBts mNum (f_X12_keepsPast mPpl mBts mNum (L_X12_strikes_7 mW x mPpl.toNatClampNeg)))))))
theorem keepsPast_ne {mPpl mBts : Int32} {mNum mW : Nat → Int32} (h : ¬ mW 1 - 1 < 0) {j : Nat} (hj : j < 247) : f_X12_keepsPast mPpl mBts mNum mW j = mW j := by
  unfold f_X12_keepsPast
  rw [upd_ne (past_ne h (vin_d (by decide)) hj), upd_ne (past_ne h (vin_d (by decide)) hj), upd_ne (past_ne h (vin_d (by decide)) hj), upd_ne (past_ne0 h hj)]
theorem isOpen_cong {f g : Nat → Int32} (h : f 2 = g 2) : f_X12_isOpen f = f_X12_isOpen g := by
  unfold f_X12_isOpen
  rw [h]
theorem strikes_a {mPpl x : Int32} {mW : Nat → Int32} (h : vp_in mPpl 21) (hl : vp_in (mW 8) 31) : ∀ n, n ≤ mPpl.toNatClampNeg → (fun s : Nat → Int32 => (∀ j, j < 8 → s j = mW j) ∧ vp_in (s 8) 31) (L_X12_strikes_7 mW x n) := by
  have hn := vin_lt h
  refine iter_inv (fun _ (s : Nat → Int32) => (∀ j, j < 8 → s j = mW j) ∧ vp_in (s 8) 31) ⟨fun _ _ => rfl, hl⟩ (fun n s hk hs => ?_)
  show (∀ j, j < 8 → (ite _ _ _ : Nat → Int32) j = mW j) ∧ vp_in ((ite _ _ _ : Nat → Int32) 8) 31
  split
  · have q := lg_sets (v := 3) hs.2 (vp_in_nI (show n < 20 by omega) (by decide)) (vin_d (x := 5) (by decide))
    refine ⟨fun j hj => ?_, lg_tells q⟩
    rw [(tells_9 q).1 j (by omega) (by omega), sets_ne (vp_in_nI (by omega) (by decide)) (vin_d (by decide)) (Or.inl (by omega))]
    exact hs.1 j hj
  · exact hs
theorem strikes_v {mPpl x : Int32} {mW : Nat → Int32} (h : vp_in mPpl 21) (hl : vp_in (mW 8) 31) (hv : f_X12_isOpen mW = false → ¬ mW 1 - 1 < 0) (c : f_X12_isOpen (L_X12_strikes_7 mW x mPpl.toNatClampNeg) = false) : ¬ (L_X12_strikes_7 mW x mPpl.toNatClampNeg) 1 - 1 < 0 := by
  have q := (strikes_a (x := x) h hl _ (Nat.le_refl _)).1
  rw [q 1 (by decide)]
  exact hv (by rw [← c]; exact (isOpen_cong (q 2 (by decide))).symm)
theorem strikes_d {mPpl mBts x : Int32} {mNum mW : Nat → Int32} (h : vp_in mPpl 21) (hl : vp_in (mW 8) 31) (hd : 0 ≤ mW 0) (hk : ¬ (L_X12_strikes_7 mW x mPpl.toNatClampNeg) 1 - 1 < 0) : 0 ≤ f_X12_keepsPast mPpl mBts mNum (L_X12_strikes_7 mW x mPpl.toNatClampNeg) 0 := by
  rw [keepsPast_ne hk (by decide), (strikes_a (x := x) h hl _ (Nat.le_refl _)).1 0 (by decide)]
  exact hd
theorem strikes_l {mPpl mBts x : Int32} {mNum mW : Nat → Int32} (h : vp_in mPpl 21) (hl : vp_in (mW 8) 31) (hk : ¬ (L_X12_strikes_7 mW x mPpl.toNatClampNeg) 1 - 1 < 0) : vp_in (f_X12_keepsPast mPpl mBts mNum (L_X12_strikes_7 mW x mPpl.toNatClampNeg) 8) 31 := by
  rw [keepsPast_ne hk (by decide)]
  exact (strikes_a (x := x) h hl _ (Nat.le_refl _)).2
set_option maxHeartbeats 4000000 in
set_option maxRecDepth 100000 in
theorem c_X12_strikes (l : Launch) (D : va_G) (A : Nat → Prop) (w : va_W) (α : Nat → Nat) (k : Nat) (mTaped : Int32) (mErr : Int32) (mPpl : Int32) (mBts : Int32) (mUs : Int32) (mRa : Int32) (mSt : Int32) (mKi : Int32) (mWd : Int64) (mVal : Int32) (mLet : Int32) (mFin : Int32) (mNp : Int32) (mNb : Int32) (mOuts : Int32) (mWant : Int32) (mFnd : Int32) (mTape : Nat → Int32) (mNum : Nat → Int32) (mNam : Nat → Int32) (mFst : Nat → Int32) (mBnm : Nat → Int32) (mW : Nat → Int32) (mUn : Nat → Int32) (mSl : Nat → Int32) (mKp : Nat → Int32) (mnNum : Nat → Int32) (mnNam : Nat → Int32) (mnBo : Nat → Int32) (mnBn : Nat → Int32) (x : Int32) (hB0 : Blk w k (cM D α k mTaped mErr mPpl mBts mUs mRa mSt mKi mWd mVal mLet mFin mNp mNb mOuts mWant mFnd mTape mNum mNam mFst mBnm mW mUn mSl mKp mnNum mnNam mnBo mnBn)) (hy0 : vp_in mPpl 21) (hy1 : 0 ≤ mW 0) (hy2 : 0 < mNum 0) (hy3 : vp_in mBts 7) (hy4 : vp_in (mW 8) 31) (hy5 : f_X12_isOpen mW = false → ¬ mW 1 - 1 < 0) : Met l yX12_strikes (ws_ yX12_strikes cX12_strikes 4 none) ({ frames := 7, cells := 0, slots := 0, locals := 149 }) (gPre D A [.ref (α (k)), .int x] w) (gQ D A none (fun w1 => Blk w1 k (cM D α k mTaped mErr mPpl mBts mUs mRa mSt mKi mWd mVal mLet mFin mNp mNb mOuts mWant mFnd mTape mNum mNam mFst mBnm (f_X12_strikes mPpl mBts mNum mW x) mUn mSl mKp mnNum mnNam mnBo mnBn) ∧ Same w w1 k 14)) 0 0 A := by
  refine g_met [(0, .ref (α (k))), (1, .int x)] (plainFor_of_name (by decide)) (Nat.le_of_ble_eq_true rfl) rfl (fun pg en s mi ar below me co ls S hK hP hD hE hS hr hlk hnm hl => ?_)
  have hF : Same w w k 14 := Same.rf
  have hpn := vin_lt (show vp_in mPpl 21 by assumption)
  refine lv_aload_n S.1 S.2.1 dX12_strikes_0 rfl (lv_at hl 0 rfl) ?_
  refine g_aftR0 (st1 := [.int (f_X12_resultNow mPpl mBts mNum mW)]) (g_V (As := []) (rest := []) S mi_X12_resultNow qw1688 (c_X12_resultNow l D A w α (k) mTaped mErr mPpl mBts mUs mRa mSt mKi mWd mVal mLet mFin mNp mNb mOuts mWant mFnd mTape mNum mNam mFst mBnm mW mUn mSl mKp mnNum mnNam mnBo mnBn hB0 (by first | assumption | exact vin_d (by decide) | exact vp_in_nI (by omega) (by decide) | decide | omega) (by first | assumption | exact vin_d (by decide) | exact vp_in_nI (by omega) (by decide) | decide | omega) (by first | assumption | exact vin_d (by decide) | exact vp_in_nI (by omega) (by decide) | decide | omega) (by first | assumption | exact vin_d (by decide) | exact vp_in_nI (by omega) (by decide) | decide | omega)) hK hP hD hE hS (hB0 0 _ rfl) rfl rfl rfl hl.1 (Nat.le_of_ble_eq_true rfl) rfl rfl ⟨(Nat.le_of_ble_eq_true rfl), (Nat.le_of_ble_eq_true rfl)⟩ ⟨(Nat.le_of_ble_eq_true rfl), (Nat.le_of_ble_eq_true rfl)⟩ dX12_strikes_1) hS rfl (fun locs hS => ?_)
  refine lv_istore_n (lv' := [(2, .int (f_X12_resultNow mPpl mBts mNum mW)), (0, .ref (α (k))), (1, .int x)]) S.1 S.2.1 dX12_strikes_4 rfl hl (by decide) rfl (fun ls hl => ?_)
  refine lv_iconst (v := 0) S.1 S.2.1 dX12_strikes_5 (by decide) ?_
  refine lv_istore_n (lv' := [(3, .int 0), (2, .int (f_X12_resultNow mPpl mBts mNum mW)), (0, .ref (α (k))), (1, .int x)]) S.1 S.2.1 dX12_strikes_6 rfl hl (by decide) rfl (fun ls hl => ?_)
  have lp7 : ∀ (j n : Nat), n + j = mPpl.toNatClampNeg → ∀ (wl : va_W) (H : Heap) (locs : List Loc) (ls : Array Slot), va_P D vwCl wl H → va_D A wl → va_S A s.heap H locs → Same w wl k 14 → Blk wl k (cM D α k mTaped mErr mPpl mBts mUs mRa mSt mKi mWd mVal mLet mFin mNp mNb mOuts mWant mFnd mTape mNum mNam mFst mBnm (L_X12_strikes_7 mW x n) mUn mSl mKp mnNum mnNam mnBo mnBn) → lv_has ls 4 [(3, .int (nI n)), (2, .int (f_X12_resultNow mPpl mBts mNum mW)), (0, .ref (α (k))), (1, .int x)] → W pg l en ({ frames := 7, cells := 0, slots := 0, locals := 149 } : Room) s mi ar below me co H locs 0 0 (MQ below (gQ D A none (fun w1 => Blk w1 k (cM D α k mTaped mErr mPpl mBts mUs mRa mSt mKi mWd mVal mLet mFin mNp mNb mOuts mWant mFnd mTape mNum mNam mFst mBnm (f_X12_strikes mPpl mBts mNum mW x) mUn mSl mKp mnNum mnNam mnBo mnBn) ∧ Same w w1 k 14)) ar s 0 0 A) (F0 mi 7 ls []) := by
    intro j
    induction j with
    | zero =>
      intro n hn wl H locs ls hP hD hS hF hB0 hl
      have hn : mPpl.toNatClampNeg = n := hn.symm
      subst hn
      refine lv_iload_n S.1 S.2.1 dX12_strikes_7 rfl (lv_at hl 0 rfl) ?_
      refine lv_aload_n S.1 S.2.1 dX12_strikes_8 rfl (lv_at hl 2 rfl) ?_
      refine g_get (v := .int mPpl) S hK hP (hB0 0 _ rfl) rfl inX12 4 (by decide) qw1378 rfl dX12_strikes_9 ?_
      refine lv_icmp_ge (tgt := 50) S.1 S.2.1 dX12_strikes_12 (by decide) (fun (c1 : mPpl ≤ (nI mPpl.toNatClampNeg)) => ?_) (fun (c1 : ¬ mPpl ≤ (nI mPpl.toNatClampNeg)) => absurd c1 (lp_out (s := 0) ((Nat.max_eq_left (Nat.zero_le _)).symm)))
      refine lv_aload_n S.1 S.2.1 dX12_strikes_50 rfl (lv_at hl 2 rfl) ?_
      refine g_aftR0 (st1 := [.int (b2i (f_X12_isOpen (L_X12_strikes_7 mW x mPpl.toNatClampNeg)))]) (g_V (As := []) (rest := []) S mi_X12_isOpen qw1621 (c_X12_isOpen l D A wl α (k) mTaped mErr mPpl mBts mUs mRa mSt mKi mWd mVal mLet mFin mNp mNb mOuts mWant mFnd mTape mNum mNam mFst mBnm (L_X12_strikes_7 mW x mPpl.toNatClampNeg) mUn mSl mKp mnNum mnNam mnBo mnBn hB0) hK hP hD hE hS (hB0 0 _ rfl) rfl rfl rfl hl.1 (Nat.le_of_ble_eq_true rfl) rfl rfl ⟨(Nat.le_of_ble_eq_true rfl), (Nat.le_of_ble_eq_true rfl)⟩ ⟨(Nat.le_of_ble_eq_true rfl), (Nat.le_of_ble_eq_true rfl)⟩ dX12_strikes_51) hS rfl (fun locs hS => ?_)
      refine g_bifeq (b := (f_X12_isOpen (L_X12_strikes_7 mW x mPpl.toNatClampNeg))) (tgt := 58) S dX12_strikes_54 (by decide) (fun (c2 : (f_X12_isOpen (L_X12_strikes_7 mW x mPpl.toNatClampNeg)) = false) => ?_) (fun (c2 : (f_X12_isOpen (L_X12_strikes_7 mW x mPpl.toNatClampNeg)) = true) => ?_)
      · have hk := strikes_v hy0 hy4 hy5 c2
        refine lv_aload_n S.1 S.2.1 dX12_strikes_58 rfl (lv_at hl 2 rfl) ?_
        refine g_aft0 (st1 := []) (g_V (As := []) (rest := []) S mi_X12_keepsPast qw1712 (c_X12_keepsPast l D A wl α (k) mTaped mErr mPpl mBts mUs mRa mSt mKi mWd mVal mLet mFin mNp mNb mOuts mWant mFnd mTape mNum mNam mFst mBnm (L_X12_strikes_7 mW x mPpl.toNatClampNeg) mUn mSl mKp mnNum mnNam mnBo mnBn hB0 (by exact hk) (by first | assumption | exact vin_d (by decide) | exact vp_in_nI (by omega) (by decide) | decide | omega) (by rw [(strikes_a hy0 hy4 _ (Nat.le_refl _)).1 0 (by decide)]; exact hy1) (by first | assumption | exact vin_d (by decide) | exact vp_in_nI (by omega) (by decide) | decide | omega) (by first | assumption | exact vin_d (by decide) | exact vp_in_nI (by omega) (by decide) | decide | omega)) hK hP hD hE hS (hB0 0 _ rfl) rfl rfl rfl hl.1 (Nat.le_of_ble_eq_true rfl) rfl rfl ⟨(Nat.le_of_ble_eq_true rfl), (Nat.le_of_ble_eq_true rfl)⟩ ⟨(Nat.le_of_ble_eq_true rfl), (Nat.le_of_ble_eq_true rfl)⟩ dX12_strikes_59) hS rfl (fun w1 H locs hQ hP hD hS => ?_)
        have hF := hF.trans hQ.2
        have hB0 : Blk w1 k (cM D α k mTaped mErr mPpl mBts mUs mRa mSt mKi mWd mVal mLet mFin mNp mNb mOuts mWant mFnd mTape mNum mNam mFst mBnm (f_X12_keepsPast mPpl mBts mNum (L_X12_strikes_7 mW x mPpl.toNatClampNeg)) mUn mSl mKp mnNum mnNam mnBo mnBn) := hQ.1
        refine lv_aload_n S.1 S.2.1 dX12_strikes_62 rfl (lv_at hl 2 rfl) ?_
        refine g_aftR0 (st1 := [.int (f_X12_resultNow mPpl mBts mNum (f_X12_keepsPast mPpl mBts mNum (L_X12_strikes_7 mW x mPpl.toNatClampNeg)))]) (g_V (As := []) (rest := []) S mi_X12_resultNow qw1688 (c_X12_resultNow l D A w1 α (k) mTaped mErr mPpl mBts mUs mRa mSt mKi mWd mVal mLet mFin mNp mNb mOuts mWant mFnd mTape mNum mNam mFst mBnm (f_X12_keepsPast mPpl mBts mNum (L_X12_strikes_7 mW x mPpl.toNatClampNeg)) mUn mSl mKp mnNum mnNam mnBo mnBn hB0 (by first | assumption | exact vin_d (by decide) | exact vp_in_nI (by omega) (by decide) | decide | omega) (by exact strikes_d hy0 hy4 hy1 hk) (by first | assumption | exact vin_d (by decide) | exact vp_in_nI (by omega) (by decide) | decide | omega) (by first | assumption | exact vin_d (by decide) | exact vp_in_nI (by omega) (by decide) | decide | omega)) hK hP hD hE hS (hB0 0 _ rfl) rfl rfl rfl hl.1 (Nat.le_of_ble_eq_true rfl) rfl rfl ⟨(Nat.le_of_ble_eq_true rfl), (Nat.le_of_ble_eq_true rfl)⟩ ⟨(Nat.le_of_ble_eq_true rfl), (Nat.le_of_ble_eq_true rfl)⟩ dX12_strikes_63) hS rfl (fun locs hS => ?_)
        refine lv_iload_n S.1 S.2.1 dX12_strikes_66 rfl (lv_at hl 1 rfl) ?_
        refine lv_icmp_eq (tgt := 91) S.1 S.2.1 dX12_strikes_67 (by decide) (fun (c3 : (f_X12_resultNow mPpl mBts mNum (f_X12_keepsPast mPpl mBts mNum (L_X12_strikes_7 mW x mPpl.toNatClampNeg))) = (f_X12_resultNow mPpl mBts mNum mW)) => ?_) (fun (c3 : ¬ (f_X12_resultNow mPpl mBts mNum (f_X12_keepsPast mPpl mBts mNum (L_X12_strikes_7 mW x mPpl.toNatClampNeg))) = (f_X12_resultNow mPpl mBts mNum mW)) => ?_)
        · have hf : (f_X12_strikes mPpl mBts mNum mW x) = (f_X12_keepsPast mPpl mBts mNum (L_X12_strikes_7 mW x mPpl.toNatClampNeg)) := (cd_f c2).trans (if_pos c3)
          exact g_vret S hr hlk hP hD hS (rfl) (⟨by rw [hf]; exact hB0, hF⟩) dX12_strikes_91
        · refine lv_aload_n S.1 S.2.1 dX12_strikes_70 rfl (lv_at hl 2 rfl) ?_
          refine lv_bipush (v := 7) S.1 S.2.1 dX12_strikes_71 (by decide) ?_
          refine lv_aload_n S.1 S.2.1 dX12_strikes_73 rfl (lv_at hl 2 rfl) ?_
          refine g_get (v := .ref (α (k + 6))) S hK hP (hB0 0 _ rfl) rfl inX12 9 (by decide) qw1383 rfl dX12_strikes_74 ?_
          refine lv_iconst (v := 1) S.1 S.2.1 dX12_strikes_77 (by decide) ?_
          refine g_iald S hK hP (hB0 6 _ rfl) (by first | assumption | exact vin_d (by decide) | exact vp_in_nI (by omega) (by decide) | decide) dX12_strikes_78 ?_
          refine lv_iconst (v := 1) S.1 S.2.1 dX12_strikes_79 (by decide) ?_
          refine lv_isub S.1 S.2.1 dX12_strikes_80 ?_
          refine lv_aload_n S.1 S.2.1 dX12_strikes_81 rfl (lv_at hl 2 rfl) ?_
          refine g_aftR0 (st1 := [.int (f_X12_resultNow mPpl mBts mNum (f_X12_keepsPast mPpl mBts mNum (L_X12_strikes_7 mW x mPpl.toNatClampNeg))), .int (((f_X12_keepsPast mPpl mBts mNum (L_X12_strikes_7 mW x mPpl.toNatClampNeg)) 1) - 1), .int 7, .ref (α (k))]) (g_V (As := []) (rest := [.int (((f_X12_keepsPast mPpl mBts mNum (L_X12_strikes_7 mW x mPpl.toNatClampNeg)) 1) - 1), .int 7, .ref (α (k))]) S mi_X12_resultNow qw1688 (c_X12_resultNow l D A w1 α (k) mTaped mErr mPpl mBts mUs mRa mSt mKi mWd mVal mLet mFin mNp mNb mOuts mWant mFnd mTape mNum mNam mFst mBnm (f_X12_keepsPast mPpl mBts mNum (L_X12_strikes_7 mW x mPpl.toNatClampNeg)) mUn mSl mKp mnNum mnNam mnBo mnBn hB0 (by first | assumption | exact vin_d (by decide) | exact vp_in_nI (by omega) (by decide) | decide | omega) (by exact strikes_d hy0 hy4 hy1 hk) (by first | assumption | exact vin_d (by decide) | exact vp_in_nI (by omega) (by decide) | decide | omega) (by first | assumption | exact vin_d (by decide) | exact vp_in_nI (by omega) (by decide) | decide | omega)) hK hP hD hE hS (hB0 0 _ rfl) rfl rfl rfl hl.1 (Nat.le_of_ble_eq_true rfl) rfl rfl ⟨(Nat.le_of_ble_eq_true rfl), (Nat.le_of_ble_eq_true rfl)⟩ ⟨(Nat.le_of_ble_eq_true rfl), (Nat.le_of_ble_eq_true rfl)⟩ dX12_strikes_82) hS rfl (fun locs hS => ?_)
          refine g_aftR0 (st1 := [.int (f_X12_orMinus (f_X12_resultNow mPpl mBts mNum (f_X12_keepsPast mPpl mBts mNum (L_X12_strikes_7 mW x mPpl.toNatClampNeg)))), .int (((f_X12_keepsPast mPpl mBts mNum (L_X12_strikes_7 mW x mPpl.toNatClampNeg)) 1) - 1), .int 7, .ref (α (k))]) (g_St (As := [.int (f_X12_resultNow mPpl mBts mNum (f_X12_keepsPast mPpl mBts mNum (L_X12_strikes_7 mW x mPpl.toNatClampNeg)))]) (rest := [.int (((f_X12_keepsPast mPpl mBts mNum (L_X12_strikes_7 mW x mPpl.toNatClampNeg)) 1) - 1), .int 7, .ref (α (k))]) S ms_X12_orMinus qw1724 (c_X12_orMinus l D A w1 α (f_X12_resultNow mPpl mBts mNum (f_X12_keepsPast mPpl mBts mNum (L_X12_strikes_7 mW x mPpl.toNatClampNeg)))) hK hP hD hE hS rfl rfl hl.1 (Nat.le_of_ble_eq_true rfl) rfl rfl ⟨(Nat.le_of_ble_eq_true rfl), (Nat.le_of_ble_eq_true rfl)⟩ ⟨(Nat.le_of_ble_eq_true rfl), (Nat.le_of_ble_eq_true rfl)⟩ dX12_strikes_85) hS rfl (fun locs hS => ?_)
          refine g_aft0 (st1 := []) (g_V (As := [.int 7, .int (((f_X12_keepsPast mPpl mBts mNum (L_X12_strikes_7 mW x mPpl.toNatClampNeg)) 1) - 1), .int (f_X12_orMinus (f_X12_resultNow mPpl mBts mNum (f_X12_keepsPast mPpl mBts mNum (L_X12_strikes_7 mW x mPpl.toNatClampNeg))))]) (rest := []) S mi_X12_tells qw1591 (c_X12_tells l D A w1 α (k) mTaped mErr mPpl mBts mUs mRa mSt mKi mWd mVal mLet mFin mNp mNb mOuts mWant mFnd mTape mNum mNam mFst mBnm (f_X12_keepsPast mPpl mBts mNum (L_X12_strikes_7 mW x mPpl.toNatClampNeg)) mUn mSl mKp mnNum mnNam mnBo mnBn 7 (((f_X12_keepsPast mPpl mBts mNum (L_X12_strikes_7 mW x mPpl.toNatClampNeg)) 1) - 1) (f_X12_orMinus (f_X12_resultNow mPpl mBts mNum (f_X12_keepsPast mPpl mBts mNum (L_X12_strikes_7 mW x mPpl.toNatClampNeg)))) hB0 (by exact strikes_l hy0 hy4 hk)) hK hP hD hE hS (hB0 0 _ rfl) rfl rfl rfl hl.1 (Nat.le_of_ble_eq_true rfl) rfl rfl ⟨(Nat.le_of_ble_eq_true rfl), (Nat.le_of_ble_eq_true rfl)⟩ ⟨(Nat.le_of_ble_eq_true rfl), (Nat.le_of_ble_eq_true rfl)⟩ dX12_strikes_88) hS rfl (fun w2 H locs hQ hP hD hS => ?_)
          have hF := hF.trans hQ.2
          have hB0 : Blk w2 k (cM D α k mTaped mErr mPpl mBts mUs mRa mSt mKi mWd mVal mLet mFin mNp mNb mOuts mWant mFnd mTape mNum mNam mFst mBnm (f_X12_tells (f_X12_keepsPast mPpl mBts mNum (L_X12_strikes_7 mW x mPpl.toNatClampNeg)) 7 (((f_X12_keepsPast mPpl mBts mNum (L_X12_strikes_7 mW x mPpl.toNatClampNeg)) 1) - 1) (f_X12_orMinus (f_X12_resultNow mPpl mBts mNum (f_X12_keepsPast mPpl mBts mNum (L_X12_strikes_7 mW x mPpl.toNatClampNeg))))) mUn mSl mKp mnNum mnNam mnBo mnBn) := hQ.1
          have hf : (f_X12_strikes mPpl mBts mNum mW x) = (f_X12_tells (f_X12_keepsPast mPpl mBts mNum (L_X12_strikes_7 mW x mPpl.toNatClampNeg)) 7 (((f_X12_keepsPast mPpl mBts mNum (L_X12_strikes_7 mW x mPpl.toNatClampNeg)) 1) - 1) (f_X12_orMinus (f_X12_resultNow mPpl mBts mNum (f_X12_keepsPast mPpl mBts mNum (L_X12_strikes_7 mW x mPpl.toNatClampNeg))))) := (cd_f c2).trans (if_neg c3)
          exact g_vret S hr hlk hP hD hS (rfl) (⟨by rw [hf]; exact hB0, hF⟩) dX12_strikes_91
      · have hf : (f_X12_strikes mPpl mBts mNum mW x) = (L_X12_strikes_7 mW x mPpl.toNatClampNeg) := cd_t c2
        exact g_vret S hr hlk hP hD hS (rfl) (⟨by rw [hf]; exact hB0, hF⟩) dX12_strikes_57
    | succ j ih =>
      intro n hn wl H locs ls hP hD hS hF hB0 hl
      refine lv_iload_n S.1 S.2.1 dX12_strikes_7 rfl (lv_at hl 0 rfl) ?_
      refine lv_aload_n S.1 S.2.1 dX12_strikes_8 rfl (lv_at hl 2 rfl) ?_
      refine g_get (v := .int mPpl) S hK hP (hB0 0 _ rfl) rfl inX12 4 (by decide) qw1378 rfl dX12_strikes_9 ?_
      refine lv_icmp_ge (tgt := 50) S.1 S.2.1 dX12_strikes_12 (by decide) (fun (c4 : mPpl ≤ (nI n)) => absurd c4 (lp_in (s := 0) (rfl) hn)) (fun (c4 : ¬ mPpl ≤ (nI n)) => ?_)
      refine lv_iload_n S.1 S.2.1 dX12_strikes_15 rfl (lv_at hl 3 rfl) ?_
      refine lv_iload_n S.1 S.2.1 dX12_strikes_16 rfl (lv_at hl 0 rfl) ?_
      refine lv_ishr S.1 S.2.1 dX12_strikes_17 ?_
      refine lv_iconst (v := 1) S.1 S.2.1 dX12_strikes_18 (by decide) ?_
      refine lv_iand S.1 S.2.1 dX12_strikes_19 ?_
      refine lv_iconst (v := 1) S.1 S.2.1 dX12_strikes_20 (by decide) ?_
      refine lv_icmp_ne (tgt := 44) S.1 S.2.1 dX12_strikes_21 (by decide) (fun (c5 : ¬ ((x >>> ((nI n) &&& 31)) &&& 1) = 1) => ?_) (fun (c5 : ((x >>> ((nI n) &&& 31)) &&& 1) = 1) => ?_)
      · refine lv_iinc (v := (nI (n + 1))) (lv' := [(3, .int (nI (n + 1))), (2, .int (f_X12_resultNow mPpl mBts mNum mW)), (0, .ref (α (k))), (1, .int x)]) S.1 S.2.1 dX12_strikes_44 hl (k := 0) rfl ((nI_succ n).symm) (by decide) rfl (fun ls hl => ?_)
        refine lv_goto (tgt := 7) S.1 S.2.1 dX12_strikes_47 (by decide) ?_
        have hL : (L_X12_strikes_7 mW x (n + 1)) = (L_X12_strikes_7 mW x n) := (iter_s _ _ _).trans (if_neg c5)
        refine ih (n + 1) (by omega) _ _ _ _ hP hD hS hF ?_ ?_
        · rw [hL]; exact hB0
        · exact lv_sub hl [0, 1, 2, 3] rfl
      · refine lv_aload_n S.1 S.2.1 dX12_strikes_24 rfl (lv_at hl 2 rfl) ?_
        refine lv_iload_n S.1 S.2.1 dX12_strikes_25 rfl (lv_at hl 0 rfl) ?_
        refine lv_iconst (v := 5) S.1 S.2.1 dX12_strikes_26 (by decide) ?_
        refine lv_iconst (v := 3) S.1 S.2.1 dX12_strikes_27 (by decide) ?_
        refine g_aft0 (st1 := []) (g_V (As := [.int (nI n), .int 5, .int 3]) (rest := []) S mi_X12_sets qw1362 (c_X12_sets l D A wl α (k) mTaped mErr mPpl mBts mUs mRa mSt mKi mWd mVal mLet mFin mNp mNb mOuts mWant mFnd mTape mNum mNam mFst mBnm (L_X12_strikes_7 mW x n) mUn mSl mKp mnNum mnNam mnBo mnBn (nI n) 5 3 hB0 (by first | assumption | exact vin_d (by decide) | exact vp_in_nI (by omega) (by decide) | decide | omega) (by first | assumption | exact vin_d (by decide) | exact vp_in_nI (by omega) (by decide) | decide | omega)) hK hP hD hE hS (hB0 0 _ rfl) rfl rfl rfl hl.1 (Nat.le_of_ble_eq_true rfl) rfl rfl ⟨(Nat.le_of_ble_eq_true rfl), (Nat.le_of_ble_eq_true rfl)⟩ ⟨(Nat.le_of_ble_eq_true rfl), (Nat.le_of_ble_eq_true rfl)⟩ dX12_strikes_28) hS rfl (fun w3 H locs hQ hP hD hS => ?_)
        have hF := hF.trans hQ.2
        have hB0 : Blk w3 k (cM D α k mTaped mErr mPpl mBts mUs mRa mSt mKi mWd mVal mLet mFin mNp mNb mOuts mWant mFnd mTape mNum mNam mFst mBnm (f_X12_sets (L_X12_strikes_7 mW x n) (nI n) 5 3) mUn mSl mKp mnNum mnNam mnBo mnBn) := hQ.1
        refine lv_aload_n S.1 S.2.1 dX12_strikes_31 rfl (lv_at hl 2 rfl) ?_
        refine lv_iconst (v := 4) S.1 S.2.1 dX12_strikes_32 (by decide) ?_
        refine lv_iload_n S.1 S.2.1 dX12_strikes_33 rfl (lv_at hl 0 rfl) ?_
        refine lv_aload_n S.1 S.2.1 dX12_strikes_34 rfl (lv_at hl 2 rfl) ?_
        refine lv_iload_n S.1 S.2.1 dX12_strikes_35 rfl (lv_at hl 0 rfl) ?_
        refine lv_bipush (v := 10) S.1 S.2.1 dX12_strikes_36 (by decide) ?_
        refine g_aftR0 (st1 := [.int (f_X12_of (f_X12_sets (L_X12_strikes_7 mW x n) (nI n) 5 3) (nI n) 10), .int (nI n), .int 4, .ref (α (k))]) (g_V (As := [.int (nI n), .int 10]) (rest := [.int (nI n), .int 4, .ref (α (k))]) S mi_X12_of qw1579 (c_X12_of l D A w3 α (k) mTaped mErr mPpl mBts mUs mRa mSt mKi mWd mVal mLet mFin mNp mNb mOuts mWant mFnd mTape mNum mNam mFst mBnm (f_X12_sets (L_X12_strikes_7 mW x n) (nI n) 5 3) mUn mSl mKp mnNum mnNam mnBo mnBn (nI n) 10 hB0 (by first | assumption | exact vin_d (by decide) | exact vp_in_nI (by omega) (by decide) | decide | omega) (by first | assumption | exact vin_d (by decide) | exact vp_in_nI (by omega) (by decide) | decide | omega)) hK hP hD hE hS (hB0 0 _ rfl) rfl rfl rfl hl.1 (Nat.le_of_ble_eq_true rfl) rfl rfl ⟨(Nat.le_of_ble_eq_true rfl), (Nat.le_of_ble_eq_true rfl)⟩ ⟨(Nat.le_of_ble_eq_true rfl), (Nat.le_of_ble_eq_true rfl)⟩ dX12_strikes_38) hS rfl (fun locs hS => ?_)
        refine g_aft0 (st1 := []) (g_V (As := [.int 4, .int (nI n), .int (f_X12_of (f_X12_sets (L_X12_strikes_7 mW x n) (nI n) 5 3) (nI n) 10)]) (rest := []) S mi_X12_tells qw1591 (c_X12_tells l D A w3 α (k) mTaped mErr mPpl mBts mUs mRa mSt mKi mWd mVal mLet mFin mNp mNb mOuts mWant mFnd mTape mNum mNam mFst mBnm (f_X12_sets (L_X12_strikes_7 mW x n) (nI n) 5 3) mUn mSl mKp mnNum mnNam mnBo mnBn 4 (nI n) (f_X12_of (f_X12_sets (L_X12_strikes_7 mW x n) (nI n) 5 3) (nI n) 10) hB0 (by exact lg_sets (strikes_a hy0 hy4 _ (by omega)).2 (vp_in_nI (by omega) (by decide)) (vin_d (by decide)))) hK hP hD hE hS (hB0 0 _ rfl) rfl rfl rfl hl.1 (Nat.le_of_ble_eq_true rfl) rfl rfl ⟨(Nat.le_of_ble_eq_true rfl), (Nat.le_of_ble_eq_true rfl)⟩ ⟨(Nat.le_of_ble_eq_true rfl), (Nat.le_of_ble_eq_true rfl)⟩ dX12_strikes_41) hS rfl (fun w4 H locs hQ hP hD hS => ?_)
        have hF := hF.trans hQ.2
        have hB0 : Blk w4 k (cM D α k mTaped mErr mPpl mBts mUs mRa mSt mKi mWd mVal mLet mFin mNp mNb mOuts mWant mFnd mTape mNum mNam mFst mBnm (f_X12_tells (f_X12_sets (L_X12_strikes_7 mW x n) (nI n) 5 3) 4 (nI n) (f_X12_of (f_X12_sets (L_X12_strikes_7 mW x n) (nI n) 5 3) (nI n) 10)) mUn mSl mKp mnNum mnNam mnBo mnBn) := hQ.1
        refine lv_iinc (v := (nI (n + 1))) (lv' := [(3, .int (nI (n + 1))), (2, .int (f_X12_resultNow mPpl mBts mNum mW)), (0, .ref (α (k))), (1, .int x)]) S.1 S.2.1 dX12_strikes_44 hl (k := 0) rfl ((nI_succ n).symm) (by decide) rfl (fun ls hl => ?_)
        refine lv_goto (tgt := 7) S.1 S.2.1 dX12_strikes_47 (by decide) ?_
        have hL : (L_X12_strikes_7 mW x (n + 1)) = (f_X12_tells (f_X12_sets (L_X12_strikes_7 mW x n) (nI n) 5 3) 4 (nI n) (f_X12_of (f_X12_sets (L_X12_strikes_7 mW x n) (nI n) 5 3) (nI n) 10)) := (iter_s _ _ _).trans (if_pos c5)
        refine ih (n + 1) (by omega) _ _ _ _ hP hD hS hF ?_ ?_
        · rw [hL]; exact hB0
        · exact lv_sub hl [0, 1, 2, 3] rfl
  have hL0 : (L_X12_strikes_7 mW x 0) = mW := iter_z _ _
  exact lp7 mPpl.toNatClampNeg 0 (Nat.zero_add _) _ _ _ _ hP hD hS hF (by rw [hL0]; exact hB0) (lv_sub hl [0, 1, 2, 3] rfl)
def f_X12_contest (mPpl : Int32) (mBts : Int32) (mUs : Int32) (mNum : Nat → Int32) (mW : Nat → Int32) (mUn : Nat → Int32) (p : Int32) (o : Int32) : Int32 × (Nat → Int32) × Int32 × (Nat → Int32) := (bif (f_X12_isPerson mPpl p) then (bif (f_X12_isPerson mPpl o) then (bif (f_X12_isAtSea mW p) then ((-3), mUn, mUs, mW) else (if (f_X12_of mW o 5) = 2 then (if (f_X12_of mW p 2) = 3 then ((-4), mUn, mUs, mW) else (bif (f_X12_isInTime mNum mW) then (if (f_X12_of mW o 10) ≤ 0 then ((f_X12_of mW o 10), (f_X12_keeps mUs mW mUn).1, (f_X12_keeps mUs mW mUn).2, (f_X12_tells (f_X12_sets mW p 2 ((f_X12_of mW p 2) + 1)) 5 p (f_X12_of (f_X12_sets mW p 2 ((f_X12_of mW p 2) + 1)) p 2))) else ((f_X12_of mW o 10), (f_X12_keeps mUs mW mUn).1, (f_X12_keeps mUs mW mUn).2, (f_X12_strikes mPpl mBts mNum mW ((1 : Int32) <<< (o &&& 31))))) else ((-5), mUn, mUs, mW))) else ((-4), mUn, mUs, mW))) else ((-1), mUn, mUs, mW)) else ((-1), mUn, mUs, mW))
theorem pos_pred {x : Int32} (h : ¬ x ≤ 0) : ¬ x - 1 < 0 := by
  have h0 : ¬ x < 0 := fun q => h (Int32.le_of_lt q)
  obtain ⟨n, hn, rfl⟩ := nI_of h0
  cases n with
  | zero => exact absurd (by decide) h
  | succ n => rw [nI_pred]; exact nI_pos (by omega)
theorem closed_v {mW : Nat → Int32} (c : f_X12_isClosed mW = true) : ¬ mW 1 - 1 < 0 := by
  unfold f_X12_isClosed at c
  by_cases h : mW 1 ≤ 0
  · rw [if_pos h] at c; cases c
  · exact pos_pred h
theorem inTime_v {mNum mW : Nat → Int32} (c : f_X12_isInTime mNum mW = true) : f_X12_isOpen mW = false → ¬ mW 1 - 1 < 0 := by
  intro h
  unfold f_X12_isInTime at c
  rw [h] at c
  cases h2 : f_X12_isClosed mW
  · rw [h2] at c; cases c
  · exact closed_v h2
set_option maxHeartbeats 4000000 in
set_option maxRecDepth 100000 in
theorem c_X12_contest (l : Launch) (D : va_G) (A : Nat → Prop) (w : va_W) (α : Nat → Nat) (k : Nat) (mTaped : Int32) (mErr : Int32) (mPpl : Int32) (mBts : Int32) (mUs : Int32) (mRa : Int32) (mSt : Int32) (mKi : Int32) (mWd : Int64) (mVal : Int32) (mLet : Int32) (mFin : Int32) (mNp : Int32) (mNb : Int32) (mOuts : Int32) (mWant : Int32) (mFnd : Int32) (mTape : Nat → Int32) (mNum : Nat → Int32) (mNam : Nat → Int32) (mFst : Nat → Int32) (mBnm : Nat → Int32) (mW : Nat → Int32) (mUn : Nat → Int32) (mSl : Nat → Int32) (mKp : Nat → Int32) (mnNum : Nat → Int32) (mnNam : Nat → Int32) (mnBo : Nat → Int32) (mnBn : Nat → Int32) (p : Int32) (o : Int32) (hB0 : Blk w k (cM D α k mTaped mErr mPpl mBts mUs mRa mSt mKi mWd mVal mLet mFin mNp mNb mOuts mWant mFnd mTape mNum mNam mFst mBnm mW mUn mSl mKp mnNum mnNam mnBo mnBn)) (hy0 : vp_in mUs 9) (hy1 : vp_in mPpl 21) (hy2 : 0 ≤ mW 0) (hy3 : 0 < mNum 0) (hy4 : vp_in mBts 7) (hy5 : vp_in (mW 8) 31) : Met l yX12_contest (ws_ yX12_contest cX12_contest 4 (some .int)) ({ frames := 8, cells := 0, slots := 0, locals := 172 }) (gPre D A [.ref (α (k)), .int p, .int o] w) (gQ D A (some (.int (f_X12_contest mPpl mBts mUs mNum mW mUn p o).1)) (fun w1 => Blk w1 k (cM D α k mTaped mErr mPpl mBts ((f_X12_contest mPpl mBts mUs mNum mW mUn p o).2.2.1) mRa mSt mKi mWd mVal mLet mFin mNp mNb mOuts mWant mFnd mTape mNum mNam mFst mBnm ((f_X12_contest mPpl mBts mUs mNum mW mUn p o).2.2.2) ((f_X12_contest mPpl mBts mUs mNum mW mUn p o).2.1) mSl mKp mnNum mnNam mnBo mnBn) ∧ Same w w1 k 14)) 0 0 A := by
  refine g_met [(0, .ref (α (k))), (1, .int p), (2, .int o)] (plainFor_of_name (by decide)) (Nat.le_of_ble_eq_true rfl) rfl (fun pg en s mi ar below me co ls S hK hP hD hE hS hr hlk hnm hl => ?_)
  have hF : Same w w k 14 := Same.rf
  refine lv_aload_n S.1 S.2.1 dX12_contest_0 rfl (lv_at hl 0 rfl) ?_
  refine lv_iload_n S.1 S.2.1 dX12_contest_1 rfl (lv_at hl 1 rfl) ?_
  refine g_aftR0 (st1 := [.int (b2i (f_X12_isPerson mPpl p))]) (g_V (As := [.int p]) (rest := []) S mi_X12_isPerson qw1611 (c_X12_isPerson l D A w α (k) mTaped mErr mPpl mBts mUs mRa mSt mKi mWd mVal mLet mFin mNp mNb mOuts mWant mFnd mTape mNum mNam mFst mBnm mW mUn mSl mKp mnNum mnNam mnBo mnBn p hB0) hK hP hD hE hS (hB0 0 _ rfl) rfl rfl rfl hl.1 (Nat.le_of_ble_eq_true rfl) rfl rfl ⟨(Nat.le_of_ble_eq_true rfl), (Nat.le_of_ble_eq_true rfl)⟩ ⟨(Nat.le_of_ble_eq_true rfl), (Nat.le_of_ble_eq_true rfl)⟩ dX12_contest_2) hS rfl (fun locs hS => ?_)
  refine g_bifeq (b := (f_X12_isPerson mPpl p)) (tgt := 16) S dX12_contest_5 (by decide) (fun (c1 : (f_X12_isPerson mPpl p) = false) => ?_) (fun (c1 : (f_X12_isPerson mPpl p) = true) => ?_)
  · refine lv_iconst (v := (-1)) S.1 S.2.1 dX12_contest_16 (by decide) ?_
    have hf : (f_X12_contest mPpl mBts mUs mNum mW mUn p o) = ((-1), mUn, mUs, mW) := cd_f c1
    exact g_iret S hr hlk hP hD hS (by rw [hf] <;> rfl) (⟨by rw [hf]; exact hB0, hF⟩) dX12_contest_17
  · have hh1 := isPerson_in (by assumption) c1
    refine lv_aload_n S.1 S.2.1 dX12_contest_8 rfl (lv_at hl 0 rfl) ?_
    refine lv_iload_n S.1 S.2.1 dX12_contest_9 rfl (lv_at hl 2 rfl) ?_
    refine g_aftR0 (st1 := [.int (b2i (f_X12_isPerson mPpl o))]) (g_V (As := [.int o]) (rest := []) S mi_X12_isPerson qw1611 (c_X12_isPerson l D A w α (k) mTaped mErr mPpl mBts mUs mRa mSt mKi mWd mVal mLet mFin mNp mNb mOuts mWant mFnd mTape mNum mNam mFst mBnm mW mUn mSl mKp mnNum mnNam mnBo mnBn o hB0) hK hP hD hE hS (hB0 0 _ rfl) rfl rfl rfl hl.1 (Nat.le_of_ble_eq_true rfl) rfl rfl ⟨(Nat.le_of_ble_eq_true rfl), (Nat.le_of_ble_eq_true rfl)⟩ ⟨(Nat.le_of_ble_eq_true rfl), (Nat.le_of_ble_eq_true rfl)⟩ dX12_contest_10) hS rfl (fun locs hS => ?_)
    refine g_bifne (b := (f_X12_isPerson mPpl o)) (tgt := 18) S dX12_contest_13 (by decide) (fun (c2 : (f_X12_isPerson mPpl o) = true) => ?_) (fun (c2 : (f_X12_isPerson mPpl o) = false) => ?_)
    · have hh2 := isPerson_in (by assumption) c2
      refine lv_aload_n S.1 S.2.1 dX12_contest_18 rfl (lv_at hl 0 rfl) ?_
      refine lv_iload_n S.1 S.2.1 dX12_contest_19 rfl (lv_at hl 1 rfl) ?_
      refine g_aftR0 (st1 := [.int (b2i (f_X12_isAtSea mW p))]) (g_V (As := [.int p]) (rest := []) S mi_X12_isAtSea qw1583 (c_X12_isAtSea l D A w α (k) mTaped mErr mPpl mBts mUs mRa mSt mKi mWd mVal mLet mFin mNp mNb mOuts mWant mFnd mTape mNum mNam mFst mBnm mW mUn mSl mKp mnNum mnNam mnBo mnBn p hB0 (by first | assumption | exact vin_d (by decide) | exact vp_in_nI (by omega) (by decide) | decide | omega)) hK hP hD hE hS (hB0 0 _ rfl) rfl rfl rfl hl.1 (Nat.le_of_ble_eq_true rfl) rfl rfl ⟨(Nat.le_of_ble_eq_true rfl), (Nat.le_of_ble_eq_true rfl)⟩ ⟨(Nat.le_of_ble_eq_true rfl), (Nat.le_of_ble_eq_true rfl)⟩ dX12_contest_20) hS rfl (fun locs hS => ?_)
      refine g_bifeq (b := (f_X12_isAtSea mW p)) (tgt := 29) S dX12_contest_23 (by decide) (fun (c3 : (f_X12_isAtSea mW p) = false) => ?_) (fun (c3 : (f_X12_isAtSea mW p) = true) => ?_)
      · refine lv_aload_n S.1 S.2.1 dX12_contest_29 rfl (lv_at hl 0 rfl) ?_
        refine lv_iload_n S.1 S.2.1 dX12_contest_30 rfl (lv_at hl 2 rfl) ?_
        refine lv_iconst (v := 5) S.1 S.2.1 dX12_contest_31 (by decide) ?_
        refine g_aftR0 (st1 := [.int (f_X12_of mW o 5)]) (g_V (As := [.int o, .int 5]) (rest := []) S mi_X12_of qw1579 (c_X12_of l D A w α (k) mTaped mErr mPpl mBts mUs mRa mSt mKi mWd mVal mLet mFin mNp mNb mOuts mWant mFnd mTape mNum mNam mFst mBnm mW mUn mSl mKp mnNum mnNam mnBo mnBn o 5 hB0 (by first | assumption | exact vin_d (by decide) | exact vp_in_nI (by omega) (by decide) | decide | omega) (by first | assumption | exact vin_d (by decide) | exact vp_in_nI (by omega) (by decide) | decide | omega)) hK hP hD hE hS (hB0 0 _ rfl) rfl rfl rfl hl.1 (Nat.le_of_ble_eq_true rfl) rfl rfl ⟨(Nat.le_of_ble_eq_true rfl), (Nat.le_of_ble_eq_true rfl)⟩ ⟨(Nat.le_of_ble_eq_true rfl), (Nat.le_of_ble_eq_true rfl)⟩ dX12_contest_32) hS rfl (fun locs hS => ?_)
        refine lv_iconst (v := 2) S.1 S.2.1 dX12_contest_35 (by decide) ?_
        refine lv_icmp_ne (tgt := 49) S.1 S.2.1 dX12_contest_36 (by decide) (fun (c4 : ¬ (f_X12_of mW o 5) = 2) => ?_) (fun (c4 : (f_X12_of mW o 5) = 2) => ?_)
        · refine lv_bipush (v := (-4)) S.1 S.2.1 dX12_contest_49 (by decide) ?_
          have hf : (f_X12_contest mPpl mBts mUs mNum mW mUn p o) = ((-4), mUn, mUs, mW) := (cd_t c1).trans ((cd_t c2).trans ((cd_f c3).trans (if_neg c4)))
          exact g_iret S hr hlk hP hD hS (by rw [hf] <;> rfl) (⟨by rw [hf]; exact hB0, hF⟩) dX12_contest_51
        · refine lv_aload_n S.1 S.2.1 dX12_contest_39 rfl (lv_at hl 0 rfl) ?_
          refine lv_iload_n S.1 S.2.1 dX12_contest_40 rfl (lv_at hl 1 rfl) ?_
          refine lv_iconst (v := 2) S.1 S.2.1 dX12_contest_41 (by decide) ?_
          refine g_aftR0 (st1 := [.int (f_X12_of mW p 2)]) (g_V (As := [.int p, .int 2]) (rest := []) S mi_X12_of qw1579 (c_X12_of l D A w α (k) mTaped mErr mPpl mBts mUs mRa mSt mKi mWd mVal mLet mFin mNp mNb mOuts mWant mFnd mTape mNum mNam mFst mBnm mW mUn mSl mKp mnNum mnNam mnBo mnBn p 2 hB0 (by first | assumption | exact vin_d (by decide) | exact vp_in_nI (by omega) (by decide) | decide | omega) (by first | assumption | exact vin_d (by decide) | exact vp_in_nI (by omega) (by decide) | decide | omega)) hK hP hD hE hS (hB0 0 _ rfl) rfl rfl rfl hl.1 (Nat.le_of_ble_eq_true rfl) rfl rfl ⟨(Nat.le_of_ble_eq_true rfl), (Nat.le_of_ble_eq_true rfl)⟩ ⟨(Nat.le_of_ble_eq_true rfl), (Nat.le_of_ble_eq_true rfl)⟩ dX12_contest_42) hS rfl (fun locs hS => ?_)
          refine lv_iconst (v := 3) S.1 S.2.1 dX12_contest_45 (by decide) ?_
          refine lv_icmp_ne (tgt := 52) S.1 S.2.1 dX12_contest_46 (by decide) (fun (c5 : ¬ (f_X12_of mW p 2) = 3) => ?_) (fun (c5 : (f_X12_of mW p 2) = 3) => ?_)
          · refine lv_aload_n S.1 S.2.1 dX12_contest_52 rfl (lv_at hl 0 rfl) ?_
            refine g_aftR0 (st1 := [.int (b2i (f_X12_isInTime mNum mW))]) (g_V (As := []) (rest := []) S mi_X12_isInTime qw1676 (c_X12_isInTime l D A w α (k) mTaped mErr mPpl mBts mUs mRa mSt mKi mWd mVal mLet mFin mNp mNb mOuts mWant mFnd mTape mNum mNam mFst mBnm mW mUn mSl mKp mnNum mnNam mnBo mnBn hB0) hK hP hD hE hS (hB0 0 _ rfl) rfl rfl rfl hl.1 (Nat.le_of_ble_eq_true rfl) rfl rfl ⟨(Nat.le_of_ble_eq_true rfl), (Nat.le_of_ble_eq_true rfl)⟩ ⟨(Nat.le_of_ble_eq_true rfl), (Nat.le_of_ble_eq_true rfl)⟩ dX12_contest_53) hS rfl (fun locs hS => ?_)
            refine g_bifne (b := (f_X12_isInTime mNum mW)) (tgt := 62) S dX12_contest_56 (by decide) (fun (c6 : (f_X12_isInTime mNum mW) = true) => ?_) (fun (c6 : (f_X12_isInTime mNum mW) = false) => ?_)
            · refine lv_aload_n S.1 S.2.1 dX12_contest_62 rfl (lv_at hl 0 rfl) ?_
              refine g_aft0 (st1 := []) (g_V (As := []) (rest := []) S mi_X12_keeps qw1575 (c_X12_keeps l D A w α (k) mTaped mErr mPpl mBts mUs mRa mSt mKi mWd mVal mLet mFin mNp mNb mOuts mWant mFnd mTape mNum mNam mFst mBnm mW mUn mSl mKp mnNum mnNam mnBo mnBn hB0 (by first | assumption | exact vin_d (by decide) | exact vp_in_nI (by omega) (by decide) | decide | omega)) hK hP hD hE hS (hB0 0 _ rfl) rfl rfl rfl hl.1 (Nat.le_of_ble_eq_true rfl) rfl rfl ⟨(Nat.le_of_ble_eq_true rfl), (Nat.le_of_ble_eq_true rfl)⟩ ⟨(Nat.le_of_ble_eq_true rfl), (Nat.le_of_ble_eq_true rfl)⟩ dX12_contest_63) hS rfl (fun w1 H locs hQ hP hD hS => ?_)
              have hF := hF.trans hQ.2
              have hB0 : Blk w1 k (cM D α k mTaped mErr mPpl mBts ((f_X12_keeps mUs mW mUn).2) mRa mSt mKi mWd mVal mLet mFin mNp mNb mOuts mWant mFnd mTape mNum mNam mFst mBnm mW ((f_X12_keeps mUs mW mUn).1) mSl mKp mnNum mnNam mnBo mnBn) := hQ.1
              refine lv_aload_n S.1 S.2.1 dX12_contest_66 rfl (lv_at hl 0 rfl) ?_
              refine lv_iload_n S.1 S.2.1 dX12_contest_67 rfl (lv_at hl 2 rfl) ?_
              refine lv_bipush (v := 10) S.1 S.2.1 dX12_contest_68 (by decide) ?_
              refine g_aftR0 (st1 := [.int (f_X12_of mW o 10)]) (g_V (As := [.int o, .int 10]) (rest := []) S mi_X12_of qw1579 (c_X12_of l D A w1 α (k) mTaped mErr mPpl mBts ((f_X12_keeps mUs mW mUn).2) mRa mSt mKi mWd mVal mLet mFin mNp mNb mOuts mWant mFnd mTape mNum mNam mFst mBnm mW ((f_X12_keeps mUs mW mUn).1) mSl mKp mnNum mnNam mnBo mnBn o 10 hB0 (by first | assumption | exact vin_d (by decide) | exact vp_in_nI (by omega) (by decide) | decide | omega) (by first | assumption | exact vin_d (by decide) | exact vp_in_nI (by omega) (by decide) | decide | omega)) hK hP hD hE hS (hB0 0 _ rfl) rfl rfl rfl hl.1 (Nat.le_of_ble_eq_true rfl) rfl rfl ⟨(Nat.le_of_ble_eq_true rfl), (Nat.le_of_ble_eq_true rfl)⟩ ⟨(Nat.le_of_ble_eq_true rfl), (Nat.le_of_ble_eq_true rfl)⟩ dX12_contest_70) hS rfl (fun locs hS => ?_)
              refine lv_istore_n (lv' := [(3, .int (f_X12_of mW o 10)), (0, .ref (α (k))), (1, .int p), (2, .int o)]) S.1 S.2.1 dX12_contest_73 rfl hl (by decide) rfl (fun ls hl => ?_)
              refine lv_iload_n S.1 S.2.1 dX12_contest_74 rfl (lv_at hl 0 rfl) ?_
              refine lv_if_le (tgt := 88) S.1 S.2.1 dX12_contest_75 (by decide) (fun (c7 : (f_X12_of mW o 10) ≤ 0) => ?_) (fun (c7 : ¬ (f_X12_of mW o 10) ≤ 0) => ?_)
              · refine lv_aload_n S.1 S.2.1 dX12_contest_88 rfl (lv_at hl 1 rfl) ?_
                refine lv_iload_n S.1 S.2.1 dX12_contest_89 rfl (lv_at hl 2 rfl) ?_
                refine lv_iconst (v := 2) S.1 S.2.1 dX12_contest_90 (by decide) ?_
                refine lv_aload_n S.1 S.2.1 dX12_contest_91 rfl (lv_at hl 1 rfl) ?_
                refine lv_iload_n S.1 S.2.1 dX12_contest_92 rfl (lv_at hl 2 rfl) ?_
                refine lv_iconst (v := 2) S.1 S.2.1 dX12_contest_93 (by decide) ?_
                refine g_aftR0 (st1 := [.int (f_X12_of mW p 2), .int 2, .int p, .ref (α (k))]) (g_V (As := [.int p, .int 2]) (rest := [.int 2, .int p, .ref (α (k))]) S mi_X12_of qw1579 (c_X12_of l D A w1 α (k) mTaped mErr mPpl mBts ((f_X12_keeps mUs mW mUn).2) mRa mSt mKi mWd mVal mLet mFin mNp mNb mOuts mWant mFnd mTape mNum mNam mFst mBnm mW ((f_X12_keeps mUs mW mUn).1) mSl mKp mnNum mnNam mnBo mnBn p 2 hB0 (by first | assumption | exact vin_d (by decide) | exact vp_in_nI (by omega) (by decide) | decide | omega) (by first | assumption | exact vin_d (by decide) | exact vp_in_nI (by omega) (by decide) | decide | omega)) hK hP hD hE hS (hB0 0 _ rfl) rfl rfl rfl hl.1 (Nat.le_of_ble_eq_true rfl) rfl rfl ⟨(Nat.le_of_ble_eq_true rfl), (Nat.le_of_ble_eq_true rfl)⟩ ⟨(Nat.le_of_ble_eq_true rfl), (Nat.le_of_ble_eq_true rfl)⟩ dX12_contest_94) hS rfl (fun locs hS => ?_)
                refine lv_iconst (v := 1) S.1 S.2.1 dX12_contest_97 (by decide) ?_
                refine lv_iadd S.1 S.2.1 dX12_contest_98 ?_
                refine g_aft0 (st1 := []) (g_V (As := [.int p, .int 2, .int ((f_X12_of mW p 2) + 1)]) (rest := []) S mi_X12_sets qw1362 (c_X12_sets l D A w1 α (k) mTaped mErr mPpl mBts ((f_X12_keeps mUs mW mUn).2) mRa mSt mKi mWd mVal mLet mFin mNp mNb mOuts mWant mFnd mTape mNum mNam mFst mBnm mW ((f_X12_keeps mUs mW mUn).1) mSl mKp mnNum mnNam mnBo mnBn p 2 ((f_X12_of mW p 2) + 1) hB0 (by first | assumption | exact vin_d (by decide) | exact vp_in_nI (by omega) (by decide) | decide | omega) (by first | assumption | exact vin_d (by decide) | exact vp_in_nI (by omega) (by decide) | decide | omega)) hK hP hD hE hS (hB0 0 _ rfl) rfl rfl rfl hl.1 (Nat.le_of_ble_eq_true rfl) rfl rfl ⟨(Nat.le_of_ble_eq_true rfl), (Nat.le_of_ble_eq_true rfl)⟩ ⟨(Nat.le_of_ble_eq_true rfl), (Nat.le_of_ble_eq_true rfl)⟩ dX12_contest_99) hS rfl (fun w2 H locs hQ hP hD hS => ?_)
                have hF := hF.trans hQ.2
                have hB0 : Blk w2 k (cM D α k mTaped mErr mPpl mBts ((f_X12_keeps mUs mW mUn).2) mRa mSt mKi mWd mVal mLet mFin mNp mNb mOuts mWant mFnd mTape mNum mNam mFst mBnm (f_X12_sets mW p 2 ((f_X12_of mW p 2) + 1)) ((f_X12_keeps mUs mW mUn).1) mSl mKp mnNum mnNam mnBo mnBn) := hQ.1
                refine lv_aload_n S.1 S.2.1 dX12_contest_102 rfl (lv_at hl 1 rfl) ?_
                refine lv_iconst (v := 5) S.1 S.2.1 dX12_contest_103 (by decide) ?_
                refine lv_iload_n S.1 S.2.1 dX12_contest_104 rfl (lv_at hl 2 rfl) ?_
                refine lv_aload_n S.1 S.2.1 dX12_contest_105 rfl (lv_at hl 1 rfl) ?_
                refine lv_iload_n S.1 S.2.1 dX12_contest_106 rfl (lv_at hl 2 rfl) ?_
                refine lv_iconst (v := 2) S.1 S.2.1 dX12_contest_107 (by decide) ?_
                refine g_aftR0 (st1 := [.int (f_X12_of (f_X12_sets mW p 2 ((f_X12_of mW p 2) + 1)) p 2), .int p, .int 5, .ref (α (k))]) (g_V (As := [.int p, .int 2]) (rest := [.int p, .int 5, .ref (α (k))]) S mi_X12_of qw1579 (c_X12_of l D A w2 α (k) mTaped mErr mPpl mBts ((f_X12_keeps mUs mW mUn).2) mRa mSt mKi mWd mVal mLet mFin mNp mNb mOuts mWant mFnd mTape mNum mNam mFst mBnm (f_X12_sets mW p 2 ((f_X12_of mW p 2) + 1)) ((f_X12_keeps mUs mW mUn).1) mSl mKp mnNum mnNam mnBo mnBn p 2 hB0 (by first | assumption | exact vin_d (by decide) | exact vp_in_nI (by omega) (by decide) | decide | omega) (by first | assumption | exact vin_d (by decide) | exact vp_in_nI (by omega) (by decide) | decide | omega)) hK hP hD hE hS (hB0 0 _ rfl) rfl rfl rfl hl.1 (Nat.le_of_ble_eq_true rfl) rfl rfl ⟨(Nat.le_of_ble_eq_true rfl), (Nat.le_of_ble_eq_true rfl)⟩ ⟨(Nat.le_of_ble_eq_true rfl), (Nat.le_of_ble_eq_true rfl)⟩ dX12_contest_108) hS rfl (fun locs hS => ?_)
                refine g_aft0 (st1 := []) (g_V (As := [.int 5, .int p, .int (f_X12_of (f_X12_sets mW p 2 ((f_X12_of mW p 2) + 1)) p 2)]) (rest := []) S mi_X12_tells qw1591 (c_X12_tells l D A w2 α (k) mTaped mErr mPpl mBts ((f_X12_keeps mUs mW mUn).2) mRa mSt mKi mWd mVal mLet mFin mNp mNb mOuts mWant mFnd mTape mNum mNam mFst mBnm (f_X12_sets mW p 2 ((f_X12_of mW p 2) + 1)) ((f_X12_keeps mUs mW mUn).1) mSl mKp mnNum mnNam mnBo mnBn 5 p (f_X12_of (f_X12_sets mW p 2 ((f_X12_of mW p 2) + 1)) p 2) hB0 (by repeat (first | assumption | refine lg_sets ?_ (by first | assumption | exact vp_in_nI (by omega) (by decide)) (vin_d (by decide)) | refine lg_setsB ?_ (by first | assumption | exact vp_in_nI (by omega) (by decide)) (vin_d (by decide)) | refine lg_upd ?_ (by decide) | refine lg_tells ?_))) hK hP hD hE hS (hB0 0 _ rfl) rfl rfl rfl hl.1 (Nat.le_of_ble_eq_true rfl) rfl rfl ⟨(Nat.le_of_ble_eq_true rfl), (Nat.le_of_ble_eq_true rfl)⟩ ⟨(Nat.le_of_ble_eq_true rfl), (Nat.le_of_ble_eq_true rfl)⟩ dX12_contest_111) hS rfl (fun w3 H locs hQ hP hD hS => ?_)
                have hF := hF.trans hQ.2
                have hB0 : Blk w3 k (cM D α k mTaped mErr mPpl mBts ((f_X12_keeps mUs mW mUn).2) mRa mSt mKi mWd mVal mLet mFin mNp mNb mOuts mWant mFnd mTape mNum mNam mFst mBnm (f_X12_tells (f_X12_sets mW p 2 ((f_X12_of mW p 2) + 1)) 5 p (f_X12_of (f_X12_sets mW p 2 ((f_X12_of mW p 2) + 1)) p 2)) ((f_X12_keeps mUs mW mUn).1) mSl mKp mnNum mnNam mnBo mnBn) := hQ.1
                refine lv_iload_n S.1 S.2.1 dX12_contest_114 rfl (lv_at hl 0 rfl) ?_
                have hf : (f_X12_contest mPpl mBts mUs mNum mW mUn p o) = ((f_X12_of mW o 10), (f_X12_keeps mUs mW mUn).1, (f_X12_keeps mUs mW mUn).2, (f_X12_tells (f_X12_sets mW p 2 ((f_X12_of mW p 2) + 1)) 5 p (f_X12_of (f_X12_sets mW p 2 ((f_X12_of mW p 2) + 1)) p 2))) := (cd_t c1).trans ((cd_t c2).trans ((cd_f c3).trans ((if_pos c4).trans ((if_neg c5).trans ((cd_t c6).trans (if_pos c7))))))
                exact g_iret S hr hlk hP hD hS (by rw [hf] <;> rfl) (⟨by rw [hf]; exact hB0, hF⟩) dX12_contest_115
              · refine lv_aload_n S.1 S.2.1 dX12_contest_78 rfl (lv_at hl 1 rfl) ?_
                refine lv_iconst (v := 1) S.1 S.2.1 dX12_contest_79 (by decide) ?_
                refine lv_iload_n S.1 S.2.1 dX12_contest_80 rfl (lv_at hl 3 rfl) ?_
                refine lv_ishl S.1 S.2.1 dX12_contest_81 ?_
                refine g_aft0 (st1 := []) (g_V (As := [.int ((1 : Int32) <<< (o &&& 31))]) (rest := []) S mi_X12_strikes qw1684 (c_X12_strikes l D A w1 α (k) mTaped mErr mPpl mBts ((f_X12_keeps mUs mW mUn).2) mRa mSt mKi mWd mVal mLet mFin mNp mNb mOuts mWant mFnd mTape mNum mNam mFst mBnm mW ((f_X12_keeps mUs mW mUn).1) mSl mKp mnNum mnNam mnBo mnBn ((1 : Int32) <<< (o &&& 31)) hB0 (by first | assumption | exact vin_d (by decide) | exact vp_in_nI (by omega) (by decide) | decide | omega) (by first | assumption | exact vin_d (by decide) | exact vp_in_nI (by omega) (by decide) | decide | omega) (by first | assumption | exact vin_d (by decide) | exact vp_in_nI (by omega) (by decide) | decide | omega) (by first | assumption | exact vin_d (by decide) | exact vp_in_nI (by omega) (by decide) | decide | omega) (by first | assumption | exact vin_d (by decide) | exact vp_in_nI (by omega) (by decide) | decide | omega) (by exact inTime_v (by assumption))) hK hP hD hE hS (hB0 0 _ rfl) rfl rfl rfl hl.1 (Nat.le_of_ble_eq_true rfl) rfl rfl ⟨(Nat.le_of_ble_eq_true rfl), (Nat.le_of_ble_eq_true rfl)⟩ ⟨(Nat.le_of_ble_eq_true rfl), (Nat.le_of_ble_eq_true rfl)⟩ dX12_contest_82) hS rfl (fun w4 H locs hQ hP hD hS => ?_)
                have hF := hF.trans hQ.2
                have hB0 : Blk w4 k (cM D α k mTaped mErr mPpl mBts ((f_X12_keeps mUs mW mUn).2) mRa mSt mKi mWd mVal mLet mFin mNp mNb mOuts mWant mFnd mTape mNum mNam mFst mBnm (f_X12_strikes mPpl mBts mNum mW ((1 : Int32) <<< (o &&& 31))) ((f_X12_keeps mUs mW mUn).1) mSl mKp mnNum mnNam mnBo mnBn) := hQ.1
                refine lv_goto (tgt := 114) S.1 S.2.1 dX12_contest_85 (by decide) ?_
                refine lv_iload_n S.1 S.2.1 dX12_contest_114 rfl (lv_at hl 0 rfl) ?_
                have hf : (f_X12_contest mPpl mBts mUs mNum mW mUn p o) = ((f_X12_of mW o 10), (f_X12_keeps mUs mW mUn).1, (f_X12_keeps mUs mW mUn).2, (f_X12_strikes mPpl mBts mNum mW ((1 : Int32) <<< (o &&& 31)))) := (cd_t c1).trans ((cd_t c2).trans ((cd_f c3).trans ((if_pos c4).trans ((if_neg c5).trans ((cd_t c6).trans (if_neg c7))))))
                exact g_iret S hr hlk hP hD hS (by rw [hf] <;> rfl) (⟨by rw [hf]; exact hB0, hF⟩) dX12_contest_115
            · refine lv_bipush (v := (-5)) S.1 S.2.1 dX12_contest_59 (by decide) ?_
              have hf : (f_X12_contest mPpl mBts mUs mNum mW mUn p o) = ((-5), mUn, mUs, mW) := (cd_t c1).trans ((cd_t c2).trans ((cd_f c3).trans ((if_pos c4).trans ((if_neg c5).trans (cd_f c6)))))
              exact g_iret S hr hlk hP hD hS (by rw [hf] <;> rfl) (⟨by rw [hf]; exact hB0, hF⟩) dX12_contest_61
          · refine lv_bipush (v := (-4)) S.1 S.2.1 dX12_contest_49 (by decide) ?_
            have hf : (f_X12_contest mPpl mBts mUs mNum mW mUn p o) = ((-4), mUn, mUs, mW) := (cd_t c1).trans ((cd_t c2).trans ((cd_f c3).trans ((if_pos c4).trans (if_pos c5))))
            exact g_iret S hr hlk hP hD hS (by rw [hf] <;> rfl) (⟨by rw [hf]; exact hB0, hF⟩) dX12_contest_51
      · refine lv_bipush (v := (-3)) S.1 S.2.1 dX12_contest_26 (by decide) ?_
        have hf : (f_X12_contest mPpl mBts mUs mNum mW mUn p o) = ((-3), mUn, mUs, mW) := (cd_t c1).trans ((cd_t c2).trans (cd_t c3))
        exact g_iret S hr hlk hP hD hS (by rw [hf] <;> rfl) (⟨by rw [hf]; exact hB0, hF⟩) dX12_contest_28
    · refine lv_iconst (v := (-1)) S.1 S.2.1 dX12_contest_16 (by decide) ?_
      have hf : (f_X12_contest mPpl mBts mUs mNum mW mUn p o) = ((-1), mUn, mUs, mW) := (cd_t c1).trans (cd_f c2)
      exact g_iret S hr hlk hP hD hS (by rw [hf] <;> rfl) (⟨by rw [hf]; exact hB0, hF⟩) dX12_contest_17
def S_X12_close_11 (mUs : Int32) (mW : Nat → Int32) (mUn : Nat → Int32) : (Nat → Int32) × Int32 := (f_X12_keeps mUs mW mUn)
def S_X12_close_45 (mPpl : Int32) (mBts : Int32) (mNum : Nat → Int32) (mW : Nat → Int32) : (Nat → Int32) := (f_X12_keepsPast mPpl mBts mNum (upd (upd (upd mW 4 (f_X12_needIn0 mPpl mBts mNum mW 0)) 2 0) 5 ((upd (upd mW 4 (f_X12_needIn0 mPpl mBts mNum mW 0)) 2 0) 0)))
def S_X12_close_66 (mPpl : Int32) (mBts : Int32) (mNum : Nat → Int32) (mW : Nat → Int32) : (Nat → Int32) := (f_X12_tells (S_X12_close_45 mPpl mBts mNum mW) 6 (((S_X12_close_45 mPpl mBts mNum mW) 1) - 1) (f_X12_orMinus (f_X12_resultNow mPpl mBts mNum (S_X12_close_45 mPpl mBts mNum mW))))
def f_X12_close (mPpl : Int32) (mBts : Int32) (mUs : Int32) (mNum : Nat → Int32) (mW : Nat → Int32) (mUn : Nat → Int32) : Int32 × (Nat → Int32) × Int32 × (Nat → Int32) := (bif (f_X12_isOpen mW) then ((f_X12_turnout mPpl (S_X12_close_66 mPpl mBts mNum mW)), (S_X12_close_11 mUs mW mUn).1, (S_X12_close_11 mUs mW mUn).2, (S_X12_close_66 mPpl mBts mNum mW)) else ((-5), mUn, mUs, mW))
theorem close_n {mPpl mBts : Int32} {mNum mW : Nat → Int32} (hv : ¬ mW 1 - 1 < 0) {j : Nat} (hj : j < 247) {a b c : Int32} : f_X12_keepsPast mPpl mBts mNum (upd (upd (upd mW 4 a) 2 b) 5 c) j = upd (upd (upd mW 4 a) 2 b) 5 c j :=
  keepsPast_ne (by rw [upd_ne (by decide), upd_ne (by decide), upd_ne (by decide)]; exact hv) hj
theorem close_d {mPpl mBts : Int32} {mNum mW : Nat → Int32} (hd : 0 ≤ mW 0) (hv : ¬ mW 1 - 1 < 0) {a b c : Int32} : 0 ≤ f_X12_keepsPast mPpl mBts mNum (upd (upd (upd mW 4 a) 2 b) 5 c) 0 := by
  rw [close_n hv (by decide), upd_ne (by decide), upd_ne (by decide), upd_ne (by decide)]; exact hd
theorem close_l {mPpl mBts : Int32} {mNum mW : Nat → Int32} (hd : vp_in (mW 8) 31) (hv : ¬ mW 1 - 1 < 0) {a b c : Int32} : vp_in (f_X12_keepsPast mPpl mBts mNum (upd (upd (upd mW 4 a) 2 b) 5 c) 8) 31 := by
  rw [close_n hv (by decide), upd_ne (by decide), upd_ne (by decide), upd_ne (by decide)]; exact hd
set_option maxHeartbeats 4000000 in
set_option maxRecDepth 100000 in
theorem c_X12_close (l : Launch) (D : va_G) (A : Nat → Prop) (w : va_W) (α : Nat → Nat) (k : Nat) (mTaped : Int32) (mErr : Int32) (mPpl : Int32) (mBts : Int32) (mUs : Int32) (mRa : Int32) (mSt : Int32) (mKi : Int32) (mWd : Int64) (mVal : Int32) (mLet : Int32) (mFin : Int32) (mNp : Int32) (mNb : Int32) (mOuts : Int32) (mWant : Int32) (mFnd : Int32) (mTape : Nat → Int32) (mNum : Nat → Int32) (mNam : Nat → Int32) (mFst : Nat → Int32) (mBnm : Nat → Int32) (mW : Nat → Int32) (mUn : Nat → Int32) (mSl : Nat → Int32) (mKp : Nat → Int32) (mnNum : Nat → Int32) (mnNam : Nat → Int32) (mnBo : Nat → Int32) (mnBn : Nat → Int32) (hB0 : Blk w k (cM D α k mTaped mErr mPpl mBts mUs mRa mSt mKi mWd mVal mLet mFin mNp mNb mOuts mWant mFnd mTape mNum mNam mFst mBnm mW mUn mSl mKp mnNum mnNam mnBo mnBn)) (hy0 : vp_in mUs 9) (hy1 : vp_in mPpl 21) (hy2 : 0 ≤ mW 0) (hy3 : 0 < mNum 0) (hy4 : vp_in mBts 7) (hy5 : vp_in (mW 8) 31) (hy6 : f_X12_isOpen mW = true → ¬ mW 1 - 1 < 0) : Met l yX12_close (ws_ yX12_close cX12_close 1 (some .int)) ({ frames := 7, cells := 0, slots := 0, locals := 149 }) (gPre D A [.ref (α (k))] w) (gQ D A (some (.int (f_X12_close mPpl mBts mUs mNum mW mUn).1)) (fun w1 => Blk w1 k (cM D α k mTaped mErr mPpl mBts ((f_X12_close mPpl mBts mUs mNum mW mUn).2.2.1) mRa mSt mKi mWd mVal mLet mFin mNp mNb mOuts mWant mFnd mTape mNum mNam mFst mBnm ((f_X12_close mPpl mBts mUs mNum mW mUn).2.2.2) ((f_X12_close mPpl mBts mUs mNum mW mUn).2.1) mSl mKp mnNum mnNam mnBo mnBn) ∧ Same w w1 k 14)) 0 0 A := by
  refine g_met [(0, .ref (α (k)))] (plainFor_of_name (by decide)) (Nat.le_of_ble_eq_true rfl) rfl (fun pg en s mi ar below me co ls S hK hP hD hE hS hr hlk hnm hl => ?_)
  have hF : Same w w k 14 := Same.rf
  refine lv_aload_n S.1 S.2.1 dX12_close_0 rfl (lv_at hl 0 rfl) ?_
  refine g_aftR0 (st1 := [.int (b2i (f_X12_isOpen mW))]) (g_V (As := []) (rest := []) S mi_X12_isOpen qw1621 (c_X12_isOpen l D A w α (k) mTaped mErr mPpl mBts mUs mRa mSt mKi mWd mVal mLet mFin mNp mNb mOuts mWant mFnd mTape mNum mNam mFst mBnm mW mUn mSl mKp mnNum mnNam mnBo mnBn hB0) hK hP hD hE hS (hB0 0 _ rfl) rfl rfl rfl hl.1 (Nat.le_of_ble_eq_true rfl) rfl rfl ⟨(Nat.le_of_ble_eq_true rfl), (Nat.le_of_ble_eq_true rfl)⟩ ⟨(Nat.le_of_ble_eq_true rfl), (Nat.le_of_ble_eq_true rfl)⟩ dX12_close_1) hS rfl (fun locs hS => ?_)
  refine g_bifne (b := (f_X12_isOpen mW)) (tgt := 10) S dX12_close_4 (by decide) (fun (c1 : (f_X12_isOpen mW) = true) => ?_) (fun (c1 : (f_X12_isOpen mW) = false) => ?_)
  · refine lv_aload_n S.1 S.2.1 dX12_close_10 rfl (lv_at hl 0 rfl) ?_
    refine g_aft0 (st1 := []) (g_V (As := []) (rest := []) S mi_X12_keeps qw1575 (c_X12_keeps l D A w α (k) mTaped mErr mPpl mBts mUs mRa mSt mKi mWd mVal mLet mFin mNp mNb mOuts mWant mFnd mTape mNum mNam mFst mBnm mW mUn mSl mKp mnNum mnNam mnBo mnBn hB0 (by first | assumption | exact vin_d (by decide) | exact vp_in_nI (by omega) (by decide) | decide | omega)) hK hP hD hE hS (hB0 0 _ rfl) rfl rfl rfl hl.1 (Nat.le_of_ble_eq_true rfl) rfl rfl ⟨(Nat.le_of_ble_eq_true rfl), (Nat.le_of_ble_eq_true rfl)⟩ ⟨(Nat.le_of_ble_eq_true rfl), (Nat.le_of_ble_eq_true rfl)⟩ dX12_close_11) hS rfl (fun w1 H locs hQ hP hD hS => ?_)
    have hF := hF.trans hQ.2
    have hB0 : Blk w1 k (cM D α k mTaped mErr mPpl mBts ((S_X12_close_11 mUs mW mUn).2) mRa mSt mKi mWd mVal mLet mFin mNp mNb mOuts mWant mFnd mTape mNum mNam mFst mBnm mW ((S_X12_close_11 mUs mW mUn).1) mSl mKp mnNum mnNam mnBo mnBn) := hQ.1
    refine lv_aload_n S.1 S.2.1 dX12_close_14 rfl (lv_at hl 0 rfl) ?_
    refine g_get (v := .ref (α (k + 6))) S hK hP (hB0 0 _ rfl) rfl inX12 9 (by decide) qw1383 rfl dX12_close_15 ?_
    refine lv_iconst (v := 4) S.1 S.2.1 dX12_close_18 (by decide) ?_
    refine lv_aload_n S.1 S.2.1 dX12_close_19 rfl (lv_at hl 0 rfl) ?_
    refine lv_iconst (v := 0) S.1 S.2.1 dX12_close_20 (by decide) ?_
    refine g_aftR0 (st1 := [.int (f_X12_needIn0 mPpl mBts mNum mW 0), .int 4, .ref (α (k + 6))]) (g_V (As := [.int 0]) (rest := [.int 4, .ref (α (k + 6))]) S mi_X12_needIn0 qw1696 (c_X12_needIn0 l D A w1 α (k) mTaped mErr mPpl mBts ((S_X12_close_11 mUs mW mUn).2) mRa mSt mKi mWd mVal mLet mFin mNp mNb mOuts mWant mFnd mTape mNum mNam mFst mBnm mW ((S_X12_close_11 mUs mW mUn).1) mSl mKp mnNum mnNam mnBo mnBn 0 hB0 (by first | assumption | exact vin_d (by decide) | exact vp_in_nI (by omega) (by decide) | decide | omega) (by first | assumption | exact vin_d (by decide) | exact vp_in_nI (by omega) (by decide) | decide | omega) (by first | assumption | exact vin_d (by decide) | exact vp_in_nI (by omega) (by decide) | decide | omega)) hK hP hD hE hS (hB0 0 _ rfl) rfl rfl rfl hl.1 (Nat.le_of_ble_eq_true rfl) rfl rfl ⟨(Nat.le_of_ble_eq_true rfl), (Nat.le_of_ble_eq_true rfl)⟩ ⟨(Nat.le_of_ble_eq_true rfl), (Nat.le_of_ble_eq_true rfl)⟩ dX12_close_21) hS rfl (fun locs hS => ?_)
    refine g_iast S hK hP hD hS (hB0 6 _ rfl) (by first | assumption | exact vin_d (by decide) | exact vp_in_nI (by omega) (by decide) | decide) dX12_close_24 (fun w2 H locs hw hP hD hS => ?_)
    have hF := Same.set hF 6 hw (by decide)
    have hB0 : Blk w2 k (cM D α k mTaped mErr mPpl mBts ((S_X12_close_11 mUs mW mUn).2) mRa mSt mKi mWd mVal mLet mFin mNp mNb mOuts mWant mFnd mTape mNum mNam mFst mBnm (upd mW 4 (f_X12_needIn0 mPpl mBts mNum mW 0)) ((S_X12_close_11 mUs mW mUn).1) mSl mKp mnNum mnNam mnBo mnBn) := hB0.set 6 hw (Nat.le_of_ble_eq_true rfl) rfl
    refine lv_aload_n S.1 S.2.1 dX12_close_25 rfl (lv_at hl 0 rfl) ?_
    refine g_get (v := .ref (α (k + 6))) S hK hP (hB0 0 _ rfl) rfl inX12 9 (by decide) qw1383 rfl dX12_close_26 ?_
    refine lv_iconst (v := 2) S.1 S.2.1 dX12_close_29 (by decide) ?_
    refine lv_iconst (v := 0) S.1 S.2.1 dX12_close_30 (by decide) ?_
    refine g_iast S hK hP hD hS (hB0 6 _ rfl) (by first | assumption | exact vin_d (by decide) | exact vp_in_nI (by omega) (by decide) | decide) dX12_close_31 (fun w3 H locs hw hP hD hS => ?_)
    have hF := Same.set hF 6 hw (by decide)
    have hB0 : Blk w3 k (cM D α k mTaped mErr mPpl mBts ((S_X12_close_11 mUs mW mUn).2) mRa mSt mKi mWd mVal mLet mFin mNp mNb mOuts mWant mFnd mTape mNum mNam mFst mBnm (upd (upd mW 4 (f_X12_needIn0 mPpl mBts mNum mW 0)) 2 0) ((S_X12_close_11 mUs mW mUn).1) mSl mKp mnNum mnNam mnBo mnBn) := hB0.set 6 hw (Nat.le_of_ble_eq_true rfl) rfl
    refine lv_aload_n S.1 S.2.1 dX12_close_32 rfl (lv_at hl 0 rfl) ?_
    refine g_get (v := .ref (α (k + 6))) S hK hP (hB0 0 _ rfl) rfl inX12 9 (by decide) qw1383 rfl dX12_close_33 ?_
    refine lv_iconst (v := 5) S.1 S.2.1 dX12_close_36 (by decide) ?_
    refine lv_aload_n S.1 S.2.1 dX12_close_37 rfl (lv_at hl 0 rfl) ?_
    refine g_get (v := .ref (α (k + 6))) S hK hP (hB0 0 _ rfl) rfl inX12 9 (by decide) qw1383 rfl dX12_close_38 ?_
    refine lv_iconst (v := 0) S.1 S.2.1 dX12_close_41 (by decide) ?_
    refine g_iald S hK hP (hB0 6 _ rfl) (by first | assumption | exact vin_d (by decide) | exact vp_in_nI (by omega) (by decide) | decide) dX12_close_42 ?_
    refine g_iast S hK hP hD hS (hB0 6 _ rfl) (by first | assumption | exact vin_d (by decide) | exact vp_in_nI (by omega) (by decide) | decide) dX12_close_43 (fun w4 H locs hw hP hD hS => ?_)
    have hF := Same.set hF 6 hw (by decide)
    have hB0 : Blk w4 k (cM D α k mTaped mErr mPpl mBts ((S_X12_close_11 mUs mW mUn).2) mRa mSt mKi mWd mVal mLet mFin mNp mNb mOuts mWant mFnd mTape mNum mNam mFst mBnm (upd (upd (upd mW 4 (f_X12_needIn0 mPpl mBts mNum mW 0)) 2 0) 5 ((upd (upd mW 4 (f_X12_needIn0 mPpl mBts mNum mW 0)) 2 0) 0)) ((S_X12_close_11 mUs mW mUn).1) mSl mKp mnNum mnNam mnBo mnBn) := hB0.set 6 hw (Nat.le_of_ble_eq_true rfl) rfl
    refine lv_aload_n S.1 S.2.1 dX12_close_44 rfl (lv_at hl 0 rfl) ?_
    refine g_aft0 (st1 := []) (g_V (As := []) (rest := []) S mi_X12_keepsPast qw1712 (c_X12_keepsPast l D A w4 α (k) mTaped mErr mPpl mBts ((S_X12_close_11 mUs mW mUn).2) mRa mSt mKi mWd mVal mLet mFin mNp mNb mOuts mWant mFnd mTape mNum mNam mFst mBnm (upd (upd (upd mW 4 (f_X12_needIn0 mPpl mBts mNum mW 0)) 2 0) 5 ((upd (upd mW 4 (f_X12_needIn0 mPpl mBts mNum mW 0)) 2 0) 0)) ((S_X12_close_11 mUs mW mUn).1) mSl mKp mnNum mnNam mnBo mnBn hB0 (by rw [upd_ne (by decide), upd_ne (by decide), upd_ne (by decide)]; exact hy6 (by assumption)) (by first | assumption | exact vin_d (by decide) | exact vp_in_nI (by omega) (by decide) | decide | omega) (by rw [upd_ne (by decide), upd_ne (by decide), upd_ne (by decide)]; assumption) (by first | assumption | exact vin_d (by decide) | exact vp_in_nI (by omega) (by decide) | decide | omega) (by first | assumption | exact vin_d (by decide) | exact vp_in_nI (by omega) (by decide) | decide | omega)) hK hP hD hE hS (hB0 0 _ rfl) rfl rfl rfl hl.1 (Nat.le_of_ble_eq_true rfl) rfl rfl ⟨(Nat.le_of_ble_eq_true rfl), (Nat.le_of_ble_eq_true rfl)⟩ ⟨(Nat.le_of_ble_eq_true rfl), (Nat.le_of_ble_eq_true rfl)⟩ dX12_close_45) hS rfl (fun w5 H locs hQ hP hD hS => ?_)
    have hF := hF.trans hQ.2
    have hB0 : Blk w5 k (cM D α k mTaped mErr mPpl mBts ((S_X12_close_11 mUs mW mUn).2) mRa mSt mKi mWd mVal mLet mFin mNp mNb mOuts mWant mFnd mTape mNum mNam mFst mBnm (S_X12_close_45 mPpl mBts mNum mW) ((S_X12_close_11 mUs mW mUn).1) mSl mKp mnNum mnNam mnBo mnBn) := hQ.1
    refine lv_aload_n S.1 S.2.1 dX12_close_48 rfl (lv_at hl 0 rfl) ?_
    refine lv_bipush (v := 6) S.1 S.2.1 dX12_close_49 (by decide) ?_
    refine lv_aload_n S.1 S.2.1 dX12_close_51 rfl (lv_at hl 0 rfl) ?_
    refine g_get (v := .ref (α (k + 6))) S hK hP (hB0 0 _ rfl) rfl inX12 9 (by decide) qw1383 rfl dX12_close_52 ?_
    refine lv_iconst (v := 1) S.1 S.2.1 dX12_close_55 (by decide) ?_
    refine g_iald S hK hP (hB0 6 _ rfl) (by first | assumption | exact vin_d (by decide) | exact vp_in_nI (by omega) (by decide) | decide) dX12_close_56 ?_
    refine lv_iconst (v := 1) S.1 S.2.1 dX12_close_57 (by decide) ?_
    refine lv_isub S.1 S.2.1 dX12_close_58 ?_
    refine lv_aload_n S.1 S.2.1 dX12_close_59 rfl (lv_at hl 0 rfl) ?_
    refine g_aftR0 (st1 := [.int (f_X12_resultNow mPpl mBts mNum (S_X12_close_45 mPpl mBts mNum mW)), .int (((S_X12_close_45 mPpl mBts mNum mW) 1) - 1), .int 6, .ref (α (k))]) (g_V (As := []) (rest := [.int (((S_X12_close_45 mPpl mBts mNum mW) 1) - 1), .int 6, .ref (α (k))]) S mi_X12_resultNow qw1688 (c_X12_resultNow l D A w5 α (k) mTaped mErr mPpl mBts ((S_X12_close_11 mUs mW mUn).2) mRa mSt mKi mWd mVal mLet mFin mNp mNb mOuts mWant mFnd mTape mNum mNam mFst mBnm (S_X12_close_45 mPpl mBts mNum mW) ((S_X12_close_11 mUs mW mUn).1) mSl mKp mnNum mnNam mnBo mnBn hB0 (by first | assumption | exact vin_d (by decide) | exact vp_in_nI (by omega) (by decide) | decide | omega) (by exact close_d (by assumption) (hy6 (by assumption))) (by first | assumption | exact vin_d (by decide) | exact vp_in_nI (by omega) (by decide) | decide | omega) (by first | assumption | exact vin_d (by decide) | exact vp_in_nI (by omega) (by decide) | decide | omega)) hK hP hD hE hS (hB0 0 _ rfl) rfl rfl rfl hl.1 (Nat.le_of_ble_eq_true rfl) rfl rfl ⟨(Nat.le_of_ble_eq_true rfl), (Nat.le_of_ble_eq_true rfl)⟩ ⟨(Nat.le_of_ble_eq_true rfl), (Nat.le_of_ble_eq_true rfl)⟩ dX12_close_60) hS rfl (fun locs hS => ?_)
    refine g_aftR0 (st1 := [.int (f_X12_orMinus (f_X12_resultNow mPpl mBts mNum (S_X12_close_45 mPpl mBts mNum mW))), .int (((S_X12_close_45 mPpl mBts mNum mW) 1) - 1), .int 6, .ref (α (k))]) (g_St (As := [.int (f_X12_resultNow mPpl mBts mNum (S_X12_close_45 mPpl mBts mNum mW))]) (rest := [.int (((S_X12_close_45 mPpl mBts mNum mW) 1) - 1), .int 6, .ref (α (k))]) S ms_X12_orMinus qw1724 (c_X12_orMinus l D A w5 α (f_X12_resultNow mPpl mBts mNum (S_X12_close_45 mPpl mBts mNum mW))) hK hP hD hE hS rfl rfl hl.1 (Nat.le_of_ble_eq_true rfl) rfl rfl ⟨(Nat.le_of_ble_eq_true rfl), (Nat.le_of_ble_eq_true rfl)⟩ ⟨(Nat.le_of_ble_eq_true rfl), (Nat.le_of_ble_eq_true rfl)⟩ dX12_close_63) hS rfl (fun locs hS => ?_)
    refine g_aft0 (st1 := []) (g_V (As := [.int 6, .int (((S_X12_close_45 mPpl mBts mNum mW) 1) - 1), .int (f_X12_orMinus (f_X12_resultNow mPpl mBts mNum (S_X12_close_45 mPpl mBts mNum mW)))]) (rest := []) S mi_X12_tells qw1591 (c_X12_tells l D A w5 α (k) mTaped mErr mPpl mBts ((S_X12_close_11 mUs mW mUn).2) mRa mSt mKi mWd mVal mLet mFin mNp mNb mOuts mWant mFnd mTape mNum mNam mFst mBnm (S_X12_close_45 mPpl mBts mNum mW) ((S_X12_close_11 mUs mW mUn).1) mSl mKp mnNum mnNam mnBo mnBn 6 (((S_X12_close_45 mPpl mBts mNum mW) 1) - 1) (f_X12_orMinus (f_X12_resultNow mPpl mBts mNum (S_X12_close_45 mPpl mBts mNum mW))) hB0 (by exact close_l (by assumption) (hy6 (by assumption)))) hK hP hD hE hS (hB0 0 _ rfl) rfl rfl rfl hl.1 (Nat.le_of_ble_eq_true rfl) rfl rfl ⟨(Nat.le_of_ble_eq_true rfl), (Nat.le_of_ble_eq_true rfl)⟩ ⟨(Nat.le_of_ble_eq_true rfl), (Nat.le_of_ble_eq_true rfl)⟩ dX12_close_66) hS rfl (fun w6 H locs hQ hP hD hS => ?_)
    have hF := hF.trans hQ.2
    have hB0 : Blk w6 k (cM D α k mTaped mErr mPpl mBts ((S_X12_close_11 mUs mW mUn).2) mRa mSt mKi mWd mVal mLet mFin mNp mNb mOuts mWant mFnd mTape mNum mNam mFst mBnm (S_X12_close_66 mPpl mBts mNum mW) ((S_X12_close_11 mUs mW mUn).1) mSl mKp mnNum mnNam mnBo mnBn) := hQ.1
    refine lv_aload_n S.1 S.2.1 dX12_close_69 rfl (lv_at hl 0 rfl) ?_
    refine g_aftR0 (st1 := [.int (f_X12_turnout mPpl (S_X12_close_66 mPpl mBts mNum mW))]) (g_V (As := []) (rest := []) S mi_X12_turnout qw1716 (c_X12_turnout l D A w6 α (k) mTaped mErr mPpl mBts ((S_X12_close_11 mUs mW mUn).2) mRa mSt mKi mWd mVal mLet mFin mNp mNb mOuts mWant mFnd mTape mNum mNam mFst mBnm (S_X12_close_66 mPpl mBts mNum mW) ((S_X12_close_11 mUs mW mUn).1) mSl mKp mnNum mnNam mnBo mnBn hB0 (by first | assumption | exact vin_d (by decide) | exact vp_in_nI (by omega) (by decide) | decide | omega)) hK hP hD hE hS (hB0 0 _ rfl) rfl rfl rfl hl.1 (Nat.le_of_ble_eq_true rfl) rfl rfl ⟨(Nat.le_of_ble_eq_true rfl), (Nat.le_of_ble_eq_true rfl)⟩ ⟨(Nat.le_of_ble_eq_true rfl), (Nat.le_of_ble_eq_true rfl)⟩ dX12_close_70) hS rfl (fun locs hS => ?_)
    have hf : (f_X12_close mPpl mBts mUs mNum mW mUn) = ((f_X12_turnout mPpl (S_X12_close_66 mPpl mBts mNum mW)), (S_X12_close_11 mUs mW mUn).1, (S_X12_close_11 mUs mW mUn).2, (S_X12_close_66 mPpl mBts mNum mW)) := cd_t c1
    exact g_iret S hr hlk hP hD hS (by rw [hf] <;> rfl) (⟨by rw [hf]; exact hB0, hF⟩) dX12_close_73
  · refine lv_bipush (v := (-5)) S.1 S.2.1 dX12_close_7 (by decide) ?_
    have hf : (f_X12_close mPpl mBts mUs mNum mW mUn) = ((-5), mUn, mUs, mW) := cd_f c1
    exact g_iret S hr hlk hP hD hS (by rw [hf] <;> rfl) (⟨by rw [hf]; exact hB0, hF⟩) dX12_close_9
def f_X12_recount (mPpl : Int32) (mBts : Int32) (mUs : Int32) (mNum : Nat → Int32) (mW : Nat → Int32) (mUn : Nat → Int32) : Int32 × (Nat → Int32) × Int32 × (Nat → Int32) := (bif (f_X12_isClosed mW) then (bif (f_X12_isInTime mNum mW) then (if (mW 6) = (mNum 9) then ((-5), mUn, mUs, mW) else ((f_X12_ones (f_X12_wrongSet mPpl (upd mW 6 ((mW 6) + 1)))), (f_X12_keeps mUs mW mUn).1, (f_X12_keeps mUs mW mUn).2, (f_X12_strikes mPpl mBts mNum (upd mW 6 ((mW 6) + 1)) (f_X12_wrongSet mPpl (upd mW 6 ((mW 6) + 1)))))) else ((-5), mUn, mUs, mW)) else ((-5), mUn, mUs, mW))
set_option maxHeartbeats 4000000 in
set_option maxRecDepth 100000 in
theorem c_X12_recount (l : Launch) (D : va_G) (A : Nat → Prop) (w : va_W) (α : Nat → Nat) (k : Nat) (mTaped : Int32) (mErr : Int32) (mPpl : Int32) (mBts : Int32) (mUs : Int32) (mRa : Int32) (mSt : Int32) (mKi : Int32) (mWd : Int64) (mVal : Int32) (mLet : Int32) (mFin : Int32) (mNp : Int32) (mNb : Int32) (mOuts : Int32) (mWant : Int32) (mFnd : Int32) (mTape : Nat → Int32) (mNum : Nat → Int32) (mNam : Nat → Int32) (mFst : Nat → Int32) (mBnm : Nat → Int32) (mW : Nat → Int32) (mUn : Nat → Int32) (mSl : Nat → Int32) (mKp : Nat → Int32) (mnNum : Nat → Int32) (mnNam : Nat → Int32) (mnBo : Nat → Int32) (mnBn : Nat → Int32) (hB0 : Blk w k (cM D α k mTaped mErr mPpl mBts mUs mRa mSt mKi mWd mVal mLet mFin mNp mNb mOuts mWant mFnd mTape mNum mNam mFst mBnm mW mUn mSl mKp mnNum mnNam mnBo mnBn)) (hy0 : vp_in mUs 9) (hy1 : vp_in mPpl 21) (hy2 : 0 ≤ mW 0) (hy3 : 0 < mNum 0) (hy4 : vp_in mBts 7) (hy5 : vp_in (mW 8) 31) : Met l yX12_recount (ws_ yX12_recount cX12_recount 2 (some .int)) ({ frames := 8, cells := 0, slots := 0, locals := 172 }) (gPre D A [.ref (α (k))] w) (gQ D A (some (.int (f_X12_recount mPpl mBts mUs mNum mW mUn).1)) (fun w1 => Blk w1 k (cM D α k mTaped mErr mPpl mBts ((f_X12_recount mPpl mBts mUs mNum mW mUn).2.2.1) mRa mSt mKi mWd mVal mLet mFin mNp mNb mOuts mWant mFnd mTape mNum mNam mFst mBnm ((f_X12_recount mPpl mBts mUs mNum mW mUn).2.2.2) ((f_X12_recount mPpl mBts mUs mNum mW mUn).2.1) mSl mKp mnNum mnNam mnBo mnBn) ∧ Same w w1 k 14)) 0 0 A := by
  refine g_met [(0, .ref (α (k)))] (plainFor_of_name (by decide)) (Nat.le_of_ble_eq_true rfl) rfl (fun pg en s mi ar below me co ls S hK hP hD hE hS hr hlk hnm hl => ?_)
  have hF : Same w w k 14 := Same.rf
  refine lv_aload_n S.1 S.2.1 dX12_recount_0 rfl (lv_at hl 0 rfl) ?_
  refine g_aftR0 (st1 := [.int (b2i (f_X12_isClosed mW))]) (g_V (As := []) (rest := []) S mi_X12_isClosed qw1680 (c_X12_isClosed l D A w α (k) mTaped mErr mPpl mBts mUs mRa mSt mKi mWd mVal mLet mFin mNp mNb mOuts mWant mFnd mTape mNum mNam mFst mBnm mW mUn mSl mKp mnNum mnNam mnBo mnBn hB0) hK hP hD hE hS (hB0 0 _ rfl) rfl rfl rfl hl.1 (Nat.le_of_ble_eq_true rfl) rfl rfl ⟨(Nat.le_of_ble_eq_true rfl), (Nat.le_of_ble_eq_true rfl)⟩ ⟨(Nat.le_of_ble_eq_true rfl), (Nat.le_of_ble_eq_true rfl)⟩ dX12_recount_1) hS rfl (fun locs hS => ?_)
  refine g_bifeq (b := (f_X12_isClosed mW)) (tgt := 31) S dX12_recount_4 (by decide) (fun (c1 : (f_X12_isClosed mW) = false) => ?_) (fun (c1 : (f_X12_isClosed mW) = true) => ?_)
  · refine lv_bipush (v := (-5)) S.1 S.2.1 dX12_recount_31 (by decide) ?_
    have hf : (f_X12_recount mPpl mBts mUs mNum mW mUn) = ((-5), mUn, mUs, mW) := cd_f c1
    exact g_iret S hr hlk hP hD hS (by rw [hf] <;> rfl) (⟨by rw [hf]; exact hB0, hF⟩) dX12_recount_33
  · refine lv_aload_n S.1 S.2.1 dX12_recount_7 rfl (lv_at hl 0 rfl) ?_
    refine g_aftR0 (st1 := [.int (b2i (f_X12_isInTime mNum mW))]) (g_V (As := []) (rest := []) S mi_X12_isInTime qw1676 (c_X12_isInTime l D A w α (k) mTaped mErr mPpl mBts mUs mRa mSt mKi mWd mVal mLet mFin mNp mNb mOuts mWant mFnd mTape mNum mNam mFst mBnm mW mUn mSl mKp mnNum mnNam mnBo mnBn hB0) hK hP hD hE hS (hB0 0 _ rfl) rfl rfl rfl hl.1 (Nat.le_of_ble_eq_true rfl) rfl rfl ⟨(Nat.le_of_ble_eq_true rfl), (Nat.le_of_ble_eq_true rfl)⟩ ⟨(Nat.le_of_ble_eq_true rfl), (Nat.le_of_ble_eq_true rfl)⟩ dX12_recount_8) hS rfl (fun locs hS => ?_)
    refine g_bifeq (b := (f_X12_isInTime mNum mW)) (tgt := 31) S dX12_recount_11 (by decide) (fun (c2 : (f_X12_isInTime mNum mW) = false) => ?_) (fun (c2 : (f_X12_isInTime mNum mW) = true) => ?_)
    · refine lv_bipush (v := (-5)) S.1 S.2.1 dX12_recount_31 (by decide) ?_
      have hf : (f_X12_recount mPpl mBts mUs mNum mW mUn) = ((-5), mUn, mUs, mW) := (cd_t c1).trans (cd_f c2)
      exact g_iret S hr hlk hP hD hS (by rw [hf] <;> rfl) (⟨by rw [hf]; exact hB0, hF⟩) dX12_recount_33
    · refine lv_aload_n S.1 S.2.1 dX12_recount_14 rfl (lv_at hl 0 rfl) ?_
      refine g_get (v := .ref (α (k + 6))) S hK hP (hB0 0 _ rfl) rfl inX12 9 (by decide) qw1383 rfl dX12_recount_15 ?_
      refine lv_bipush (v := 6) S.1 S.2.1 dX12_recount_18 (by decide) ?_
      refine g_iald S hK hP (hB0 6 _ rfl) (by first | assumption | exact vin_d (by decide) | exact vp_in_nI (by omega) (by decide) | decide) dX12_recount_20 ?_
      refine lv_aload_n S.1 S.2.1 dX12_recount_21 rfl (lv_at hl 0 rfl) ?_
      refine g_get (v := .ref (α (k + 2))) S hK hP (hB0 0 _ rfl) rfl inX12 3 (by decide) qw1377 rfl dX12_recount_22 ?_
      refine lv_bipush (v := 9) S.1 S.2.1 dX12_recount_25 (by decide) ?_
      refine g_iald S hK hP (hB0 2 _ rfl) (by first | assumption | exact vin_d (by decide) | exact vp_in_nI (by omega) (by decide) | decide) dX12_recount_27 ?_
      refine lv_icmp_ne (tgt := 34) S.1 S.2.1 dX12_recount_28 (by decide) (fun (c3 : ¬ (mW 6) = (mNum 9)) => ?_) (fun (c3 : (mW 6) = (mNum 9)) => ?_)
      · refine lv_aload_n S.1 S.2.1 dX12_recount_34 rfl (lv_at hl 0 rfl) ?_
        refine g_aft0 (st1 := []) (g_V (As := []) (rest := []) S mi_X12_keeps qw1575 (c_X12_keeps l D A w α (k) mTaped mErr mPpl mBts mUs mRa mSt mKi mWd mVal mLet mFin mNp mNb mOuts mWant mFnd mTape mNum mNam mFst mBnm mW mUn mSl mKp mnNum mnNam mnBo mnBn hB0 (by first | assumption | exact vin_d (by decide) | exact vp_in_nI (by omega) (by decide) | decide | omega)) hK hP hD hE hS (hB0 0 _ rfl) rfl rfl rfl hl.1 (Nat.le_of_ble_eq_true rfl) rfl rfl ⟨(Nat.le_of_ble_eq_true rfl), (Nat.le_of_ble_eq_true rfl)⟩ ⟨(Nat.le_of_ble_eq_true rfl), (Nat.le_of_ble_eq_true rfl)⟩ dX12_recount_35) hS rfl (fun w1 H locs hQ hP hD hS => ?_)
        have hF := hF.trans hQ.2
        have hB0 : Blk w1 k (cM D α k mTaped mErr mPpl mBts ((f_X12_keeps mUs mW mUn).2) mRa mSt mKi mWd mVal mLet mFin mNp mNb mOuts mWant mFnd mTape mNum mNam mFst mBnm mW ((f_X12_keeps mUs mW mUn).1) mSl mKp mnNum mnNam mnBo mnBn) := hQ.1
        refine lv_aload_n S.1 S.2.1 dX12_recount_38 rfl (lv_at hl 0 rfl) ?_
        refine g_get (v := .ref (α (k + 6))) S hK hP (hB0 0 _ rfl) rfl inX12 9 (by decide) qw1383 rfl dX12_recount_39 ?_
        refine lv_bipush (v := 6) S.1 S.2.1 dX12_recount_42 (by decide) ?_
        refine lv_dup2_11 S.1 S.2.1 dX12_recount_44 rfl rfl ?_
        refine g_iald S hK hP (hB0 6 _ rfl) (by first | assumption | exact vin_d (by decide) | exact vp_in_nI (by omega) (by decide) | decide) dX12_recount_45 ?_
        refine lv_iconst (v := 1) S.1 S.2.1 dX12_recount_46 (by decide) ?_
        refine lv_iadd S.1 S.2.1 dX12_recount_47 ?_
        refine g_iast S hK hP hD hS (hB0 6 _ rfl) (by first | assumption | exact vin_d (by decide) | exact vp_in_nI (by omega) (by decide) | decide) dX12_recount_48 (fun w2 H locs hw hP hD hS => ?_)
        have hF := Same.set hF 6 hw (by decide)
        have hB0 : Blk w2 k (cM D α k mTaped mErr mPpl mBts ((f_X12_keeps mUs mW mUn).2) mRa mSt mKi mWd mVal mLet mFin mNp mNb mOuts mWant mFnd mTape mNum mNam mFst mBnm (upd mW 6 ((mW 6) + 1)) ((f_X12_keeps mUs mW mUn).1) mSl mKp mnNum mnNam mnBo mnBn) := hB0.set 6 hw (Nat.le_of_ble_eq_true rfl) rfl
        refine lv_aload_n S.1 S.2.1 dX12_recount_49 rfl (lv_at hl 0 rfl) ?_
        refine g_aftR0 (st1 := [.int (f_X12_wrongSet mPpl (upd mW 6 ((mW 6) + 1)))]) (g_V (As := []) (rest := []) S mi_X12_wrongSet qw1735 (c_X12_wrongSet l D A w2 α (k) mTaped mErr mPpl mBts ((f_X12_keeps mUs mW mUn).2) mRa mSt mKi mWd mVal mLet mFin mNp mNb mOuts mWant mFnd mTape mNum mNam mFst mBnm (upd mW 6 ((mW 6) + 1)) ((f_X12_keeps mUs mW mUn).1) mSl mKp mnNum mnNam mnBo mnBn hB0 (by first | assumption | exact vin_d (by decide) | exact vp_in_nI (by omega) (by decide) | decide | omega)) hK hP hD hE hS (hB0 0 _ rfl) rfl rfl rfl hl.1 (Nat.le_of_ble_eq_true rfl) rfl rfl ⟨(Nat.le_of_ble_eq_true rfl), (Nat.le_of_ble_eq_true rfl)⟩ ⟨(Nat.le_of_ble_eq_true rfl), (Nat.le_of_ble_eq_true rfl)⟩ dX12_recount_50) hS rfl (fun locs hS => ?_)
        refine lv_istore_n (lv' := [(1, .int (f_X12_wrongSet mPpl (upd mW 6 ((mW 6) + 1)))), (0, .ref (α (k)))]) S.1 S.2.1 dX12_recount_53 rfl hl (by decide) rfl (fun ls hl => ?_)
        refine lv_aload_n S.1 S.2.1 dX12_recount_54 rfl (lv_at hl 1 rfl) ?_
        refine lv_iload_n S.1 S.2.1 dX12_recount_55 rfl (lv_at hl 0 rfl) ?_
        refine g_aft0 (st1 := []) (g_V (As := [.int (f_X12_wrongSet mPpl (upd mW 6 ((mW 6) + 1)))]) (rest := []) S mi_X12_strikes qw1684 (c_X12_strikes l D A w2 α (k) mTaped mErr mPpl mBts ((f_X12_keeps mUs mW mUn).2) mRa mSt mKi mWd mVal mLet mFin mNp mNb mOuts mWant mFnd mTape mNum mNam mFst mBnm (upd mW 6 ((mW 6) + 1)) ((f_X12_keeps mUs mW mUn).1) mSl mKp mnNum mnNam mnBo mnBn (f_X12_wrongSet mPpl (upd mW 6 ((mW 6) + 1))) hB0 (by first | assumption | exact vin_d (by decide) | exact vp_in_nI (by omega) (by decide) | decide | omega) (by rw [upd_ne (by decide)]; assumption) (by first | assumption | exact vin_d (by decide) | exact vp_in_nI (by omega) (by decide) | decide | omega) (by first | assumption | exact vin_d (by decide) | exact vp_in_nI (by omega) (by decide) | decide | omega) (by rw [upd_ne (by decide)]; assumption) (by intro _; rw [upd_ne (by decide)]; exact closed_v (by assumption))) hK hP hD hE hS (hB0 0 _ rfl) rfl rfl rfl hl.1 (Nat.le_of_ble_eq_true rfl) rfl rfl ⟨(Nat.le_of_ble_eq_true rfl), (Nat.le_of_ble_eq_true rfl)⟩ ⟨(Nat.le_of_ble_eq_true rfl), (Nat.le_of_ble_eq_true rfl)⟩ dX12_recount_56) hS rfl (fun w3 H locs hQ hP hD hS => ?_)
        have hF := hF.trans hQ.2
        have hB0 : Blk w3 k (cM D α k mTaped mErr mPpl mBts ((f_X12_keeps mUs mW mUn).2) mRa mSt mKi mWd mVal mLet mFin mNp mNb mOuts mWant mFnd mTape mNum mNam mFst mBnm (f_X12_strikes mPpl mBts mNum (upd mW 6 ((mW 6) + 1)) (f_X12_wrongSet mPpl (upd mW 6 ((mW 6) + 1)))) ((f_X12_keeps mUs mW mUn).1) mSl mKp mnNum mnNam mnBo mnBn) := hQ.1
        refine lv_iload_n S.1 S.2.1 dX12_recount_59 rfl (lv_at hl 0 rfl) ?_
        refine g_aftR0 (st1 := [.int (f_X12_ones (f_X12_wrongSet mPpl (upd mW 6 ((mW 6) + 1))))]) (g_St (As := [.int (f_X12_wrongSet mPpl (upd mW 6 ((mW 6) + 1)))]) (rest := []) S ms_X12_ones qw1645 (c_X12_ones l D A w3 α (f_X12_wrongSet mPpl (upd mW 6 ((mW 6) + 1)))) hK hP hD hE hS rfl rfl hl.1 (Nat.le_of_ble_eq_true rfl) rfl rfl ⟨(Nat.le_of_ble_eq_true rfl), (Nat.le_of_ble_eq_true rfl)⟩ ⟨(Nat.le_of_ble_eq_true rfl), (Nat.le_of_ble_eq_true rfl)⟩ dX12_recount_60) hS rfl (fun locs hS => ?_)
        have hf : (f_X12_recount mPpl mBts mUs mNum mW mUn) = ((f_X12_ones (f_X12_wrongSet mPpl (upd mW 6 ((mW 6) + 1)))), (f_X12_keeps mUs mW mUn).1, (f_X12_keeps mUs mW mUn).2, (f_X12_strikes mPpl mBts mNum (upd mW 6 ((mW 6) + 1)) (f_X12_wrongSet mPpl (upd mW 6 ((mW 6) + 1))))) := (cd_t c1).trans ((cd_t c2).trans (if_neg c3))
        exact g_iret S hr hlk hP hD hS (by rw [hf] <;> rfl) (⟨by rw [hf]; exact hB0, hF⟩) dX12_recount_63
      · refine lv_bipush (v := (-5)) S.1 S.2.1 dX12_recount_31 (by decide) ?_
        have hf : (f_X12_recount mPpl mBts mUs mNum mW mUn) = ((-5), mUn, mUs, mW) := (cd_t c1).trans ((cd_t c2).trans (if_pos c3))
        exact g_iret S hr hlk hP hD hS (by rw [hf] <;> rfl) (⟨by rw [hf]; exact hB0, hF⟩) dX12_recount_33
