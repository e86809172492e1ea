def L_X12_pass_22 (mPpl : Int32) (mBts : Int32) (mW : Nat → Int32) : Nat → Int32 × (Nat → Int32) := iter_ (fun n sn => ((sn.1 + (f_X12_passes mPpl mBts (sn.2)).1), (f_X12_passes mPpl mBts (sn.2)).2)) (0, mW)
def f_X12_pass (mPpl : Int32) (mBts : Int32) (mUs : Int32) (mW : Nat → Int32) (mUn : Nat → Int32) (d : Int32) : Int32 × (Nat → Int32) × Int32 × (Nat → Int32) := (bif (f_X12_in d.toInt64 1 99) then ((L_X12_pass_22 mPpl mBts mW d.toNatClampNeg).1, (f_X12_keeps mUs mW mUn).1, (f_X12_keeps mUs mW mUn).2, (L_X12_pass_22 mPpl mBts mW d.toNatClampNeg).2) else ((-1), mUn, mUs, mW))
theorem passes_lg {mPpl mBts : Int32} {mW : Nat → Int32} (h : vp_in mPpl 21) (hb : vp_in mBts 7) (hl : vp_in (mW 8) 31) : vp_in ((f_X12_passes mPpl mBts mW).2 8) 31 := by
  unfold f_X12_passes
  dsimp only
  exact passes_b h hb hl _ (Nat.le_refl _)
theorem pass_a {mPpl mBts : Int32} {mW : Nat → Int32} (h : vp_in mPpl 21) (hb : vp_in mBts 7) (hl : vp_in (mW 8) 31) (n : Nat) : vp_in ((L_X12_pass_22 mPpl mBts mW n).2 8) 31 :=
  iter_inv (N := n) (fun _ (s : Int32 × (Nat → Int32)) => vp_in (s.2 8) 31) hl (fun n s hk hs => by dsimp only; exact passes_lg h hb hs) n (Nat.le_refl n)
set_option maxHeartbeats 4000000 in
set_option maxRecDepth 100000 in
theorem c_X12_pass (l : Launch) (D : va_G) (A : Nat → Prop) (w : va_W) (α : Nat → Nat) (k : Nat) (mTaped : Int32) (mErr : Int32) (mPpl : Int32) (mBts : Int32) (mUs : Int32) (mRa : Int32) (mSt : Int32) (mKi : Int32) (mWd : Int64) (mVal : Int32) (mLet : Int32) (mFin : Int32) (mNp : Int32) (mNb : Int32) (mOuts : Int32) (mWant : Int32) (mFnd : Int32) (mTape : Nat → Int32) (mNum : Nat → Int32) (mNam : Nat → Int32) (mFst : Nat → Int32) (mBnm : Nat → Int32) (mW : Nat → Int32) (mUn : Nat → Int32) (mSl : Nat → Int32) (mKp : Nat → Int32) (mnNum : Nat → Int32) (mnNam : Nat → Int32) (mnBo : Nat → Int32) (mnBn : Nat → Int32) (d : Int32) (hB0 : Blk w k (cM D α k mTaped mErr mPpl mBts mUs mRa mSt mKi mWd mVal mLet mFin mNp mNb mOuts mWant mFnd mTape mNum mNam mFst mBnm mW mUn mSl mKp mnNum mnNam mnBo mnBn)) (hy0 : vp_in mUs 9) (hy1 : vp_in mPpl 21) (hy2 : vp_in mBts 7) (hy3 : vp_in (mW 8) 31) : Met l yX12_pass (ws_ yX12_pass cX12_pass 4 (some .int)) ({ frames := 3, cells := 0, slots := 0, locals := 69 }) (gPre D A [.ref (α (k)), .int d] w) (gQ D A (some (.int (f_X12_pass mPpl mBts mUs mW mUn d).1)) (fun w1 => Blk w1 k (cM D α k mTaped mErr mPpl mBts ((f_X12_pass mPpl mBts mUs mW mUn d).2.2.1) mRa mSt mKi mWd mVal mLet mFin mNp mNb mOuts mWant mFnd mTape mNum mNam mFst mBnm ((f_X12_pass mPpl mBts mUs mW mUn d).2.2.2) ((f_X12_pass mPpl mBts mUs mW mUn d).2.1) mSl mKp mnNum mnNam mnBo mnBn) ∧ Same w w1 k 14)) 0 0 A := by
  refine g_met [(0, .ref (α (k))), (1, .int d)] (plainFor_of_name (by decide)) (Nat.le_of_ble_eq_true rfl) rfl (fun pg en s mi ar below me co ls S hK hP hD hE hS hr hlk hnm hl => ?_)
  have hF : Same w w k 14 := Same.rf
  refine lv_iload_n S.1 S.2.1 dX12_pass_0 rfl (lv_at hl 1 rfl) ?_
  refine lv_i2l (v := d.toInt64) S.1 S.2.1 dX12_pass_1 rfl ?_
  refine lv_lconst (v := 1) S.1 S.2.1 dX12_pass_2 (by decide) ?_
  refine lv_ldc2 (v := 99) S.1 S.2.1 S.2.2.2.1 (S.2.2.2.2 _ qw1566) dX12_pass_3 ?_
  refine g_aftR0 (st1 := [.int (b2i (f_X12_in d.toInt64 1 99))]) (g_St (As := [.long d.toInt64, .long 1, .long 99]) (rest := []) S ms_X12_in qw1477 (c_X12_in l D A w α d.toInt64 1 99) hK hP hD hE hS rfl rfl hl.1 (Nat.le_of_ble_eq_true rfl) rfl rfl ⟨(Nat.le_of_ble_eq_true rfl), (Nat.le_of_ble_eq_true rfl)⟩ ⟨(Nat.le_of_ble_eq_true rfl), (Nat.le_of_ble_eq_true rfl)⟩ dX12_pass_6) hS rfl (fun locs hS => ?_)
  refine g_bifne (b := (f_X12_in d.toInt64 1 99)) (tgt := 14) S dX12_pass_9 (by decide) (fun (c1 : (f_X12_in d.toInt64 1 99) = true) => ?_) (fun (c1 : (f_X12_in d.toInt64 1 99) = false) => ?_)
  · have hd99 : vp_in d 100 := in_vin1 (by decide) (by decide) c1
    refine lv_aload_n S.1 S.2.1 dX12_pass_14 rfl (lv_at hl 0 rfl) ?_
    refine g_aft0 (st1 := []) (g_V (As := []) (rest := []) S mi_X12_keeps qw1575 (c_X12_keeps l D A w α (k) mTaped mErr mPpl mBts mUs mRa mSt mKi mWd mVal mLet mFin mNp mNb mOuts mWant mFnd mTape mNum mNam mFst mBnm mW mUn mSl mKp mnNum mnNam mnBo mnBn hB0 (by first | assumption | exact vin_d (by decide) | exact vp_in_nI (by omega) (by decide) | decide | omega)) hK hP hD hE hS (hB0 0 _ rfl) rfl rfl rfl hl.1 (Nat.le_of_ble_eq_true rfl) rfl rfl ⟨(Nat.le_of_ble_eq_true rfl), (Nat.le_of_ble_eq_true rfl)⟩ ⟨(Nat.le_of_ble_eq_true rfl), (Nat.le_of_ble_eq_true rfl)⟩ dX12_pass_15) hS rfl (fun w1 H locs hQ hP hD hS => ?_)
    have hF := hF.trans hQ.2
    have hB0 : Blk w1 k (cM D α k mTaped mErr mPpl mBts ((f_X12_keeps mUs mW mUn).2) mRa mSt mKi mWd mVal mLet mFin mNp mNb mOuts mWant mFnd mTape mNum mNam mFst mBnm mW ((f_X12_keeps mUs mW mUn).1) mSl mKp mnNum mnNam mnBo mnBn) := hQ.1
    refine lv_iconst (v := 0) S.1 S.2.1 dX12_pass_18 (by decide) ?_
    refine lv_istore_n (lv' := [(2, .int 0), (0, .ref (α (k))), (1, .int d)]) S.1 S.2.1 dX12_pass_19 rfl hl (by decide) rfl (fun ls hl => ?_)
    refine lv_iconst (v := 0) S.1 S.2.1 dX12_pass_20 (by decide) ?_
    refine lv_istore_n (lv' := [(3, .int 0), (2, .int 0), (0, .ref (α (k))), (1, .int d)]) S.1 S.2.1 dX12_pass_21 rfl hl (by decide) rfl (fun ls hl => ?_)
    have lp22 : ∀ (j n : Nat), n + j = d.toNatClampNeg → ∀ (wl : va_W) (H : Heap) (locs : List Loc) (ls : Array Slot), va_P D vwCl wl H → va_D A wl → va_S A s.heap H locs → Same w wl k 14 → Blk wl k (cM D α k mTaped mErr mPpl mBts ((f_X12_keeps mUs mW mUn).2) mRa mSt mKi mWd mVal mLet mFin mNp mNb mOuts mWant mFnd mTape mNum mNam mFst mBnm ((L_X12_pass_22 mPpl mBts mW n).2) ((f_X12_keeps mUs mW mUn).1) mSl mKp mnNum mnNam mnBo mnBn) → lv_has ls 4 [(3, .int (nI n)), (2, .int ((L_X12_pass_22 mPpl mBts mW n).1)), (0, .ref (α (k))), (1, .int d)] → W pg l en ({ frames := 3, cells := 0, slots := 0, locals := 69 } : Room) s mi ar below me co H locs 0 0 (MQ below (gQ D A (some (.int (f_X12_pass mPpl mBts mUs mW mUn d).1)) (fun w1 => Blk w1 k (cM D α k mTaped mErr mPpl mBts ((f_X12_pass mPpl mBts mUs mW mUn d).2.2.1) mRa mSt mKi mWd mVal mLet mFin mNp mNb mOuts mWant mFnd mTape mNum mNam mFst mBnm ((f_X12_pass mPpl mBts mUs mW mUn d).2.2.2) ((f_X12_pass mPpl mBts mUs mW mUn d).2.1) mSl mKp mnNum mnNam mnBo mnBn) ∧ Same w w1 k 14)) ar s 0 0 A) (F0 mi 22 ls []) := by
      intro j
      induction j with
      | zero =>
        intro n hn wl H locs ls hP hD hS hF hB0 hl
        have hn : d.toNatClampNeg = n := hn.symm
        subst hn
        refine lv_iload_n S.1 S.2.1 dX12_pass_22 rfl (lv_at hl 0 rfl) ?_
        refine lv_iload_n S.1 S.2.1 dX12_pass_23 rfl (lv_at hl 3 rfl) ?_
        refine lv_icmp_ge (tgt := 40) S.1 S.2.1 dX12_pass_24 (by decide) (fun (c2 : d ≤ (nI d.toNatClampNeg)) => ?_) (fun (c2 : ¬ d ≤ (nI d.toNatClampNeg)) => absurd c2 (lp_out (s := 0) ((Nat.max_eq_left (Nat.zero_le _)).symm)))
        refine lv_iload_n S.1 S.2.1 dX12_pass_40 rfl (lv_at hl 1 rfl) ?_
        have hf : (f_X12_pass mPpl mBts mUs mW mUn d) = ((L_X12_pass_22 mPpl mBts mW d.toNatClampNeg).1, (f_X12_keeps mUs mW mUn).1, (f_X12_keeps mUs mW mUn).2, (L_X12_pass_22 mPpl mBts mW d.toNatClampNeg).2) := cd_t c1
        exact g_iret S hr hlk hP hD hS (by rw [hf] <;> rfl) (⟨by rw [hf]; exact hB0, hF⟩) dX12_pass_41
      | succ j ih =>
        intro n hn wl H locs ls hP hD hS hF hB0 hl
        refine lv_iload_n S.1 S.2.1 dX12_pass_22 rfl (lv_at hl 0 rfl) ?_
        refine lv_iload_n S.1 S.2.1 dX12_pass_23 rfl (lv_at hl 3 rfl) ?_
        refine lv_icmp_ge (tgt := 40) S.1 S.2.1 dX12_pass_24 (by decide) (fun (c3 : d ≤ (nI n)) => absurd c3 (lp_in (s := 0) (rfl) hn)) (fun (c3 : ¬ d ≤ (nI n)) => ?_)
        refine lv_iload_n S.1 S.2.1 dX12_pass_27 rfl (lv_at hl 1 rfl) ?_
        refine lv_aload_n S.1 S.2.1 dX12_pass_28 rfl (lv_at hl 2 rfl) ?_
        refine g_aft0 (st1 := [.int ((f_X12_passes mPpl mBts ((L_X12_pass_22 mPpl mBts mW n).2)).1), .int ((L_X12_pass_22 mPpl mBts mW n).1)]) (g_V (As := []) (rest := [.int ((L_X12_pass_22 mPpl mBts mW n).1)]) S mi_X12_passes qw1743 (c_X12_passes l D A wl α (k) mTaped mErr mPpl mBts ((f_X12_keeps mUs mW mUn).2) mRa mSt mKi mWd mVal mLet mFin mNp mNb mOuts mWant mFnd mTape mNum mNam mFst mBnm ((L_X12_pass_22 mPpl mBts mW n).2) ((f_X12_keeps mUs mW mUn).1) mSl mKp mnNum mnNam mnBo mnBn hB0 (by first | assumption | exact vin_d (by decide) | exact vp_in_nI (by omega) (by decide) | decide | omega) (by first | assumption | exact vin_d (by decide) | exact vp_in_nI (by omega) (by decide) | decide | omega) (by exact pass_a hy1 hy2 hy3 _)) hK hP hD hE hS (hB0 0 _ rfl) rfl rfl rfl hl.1 (Nat.le_of_ble_eq_true rfl) rfl rfl ⟨(Nat.le_of_ble_eq_true rfl), (Nat.le_of_ble_eq_true rfl)⟩ ⟨(Nat.le_of_ble_eq_true rfl), (Nat.le_of_ble_eq_true rfl)⟩ dX12_pass_29) hS rfl (fun w2 H locs hQ hP hD hS => ?_)
        have hF := hF.trans hQ.2
        have hB0 : Blk w2 k (cM D α k mTaped mErr mPpl mBts ((f_X12_keeps mUs mW mUn).2) mRa mSt mKi mWd mVal mLet mFin mNp mNb mOuts mWant mFnd mTape mNum mNam mFst mBnm ((f_X12_passes mPpl mBts ((L_X12_pass_22 mPpl mBts mW n).2)).2) ((f_X12_keeps mUs mW mUn).1) mSl mKp mnNum mnNam mnBo mnBn) := hQ.1
        refine lv_iadd S.1 S.2.1 dX12_pass_32 ?_
        refine lv_istore_n (lv' := [(2, .int ((L_X12_pass_22 mPpl mBts mW n).1 + (f_X12_passes mPpl mBts ((L_X12_pass_22 mPpl mBts mW n).2)).1)), (3, .int (nI n)), (0, .ref (α (k))), (1, .int d)]) S.1 S.2.1 dX12_pass_33 rfl hl (by decide) rfl (fun ls hl => ?_)
        refine lv_iinc (v := (nI (n + 1))) (lv' := [(3, .int (nI (n + 1))), (2, .int ((L_X12_pass_22 mPpl mBts mW n).1 + (f_X12_passes mPpl mBts ((L_X12_pass_22 mPpl mBts mW n).2)).1)), (0, .ref (α (k))), (1, .int d)]) S.1 S.2.1 dX12_pass_34 hl (k := 1) rfl ((nI_succ n).symm) (by decide) rfl (fun ls hl => ?_)
        refine lv_goto (tgt := 22) S.1 S.2.1 dX12_pass_37 (by decide) ?_
        have hL : (L_X12_pass_22 mPpl mBts mW (n + 1)) = (((L_X12_pass_22 mPpl mBts mW n).1 + (f_X12_passes mPpl mBts ((L_X12_pass_22 mPpl mBts mW n).2)).1), (f_X12_passes mPpl mBts ((L_X12_pass_22 mPpl mBts mW n).2)).2) := (iter_s _ _ _).trans (rfl)
        refine ih (n + 1) (by omega) _ _ _ _ hP hD hS hF ?_ ?_
        · rw [hL]; exact hB0
        · rw [hL]; exact lv_sub hl [0, 1, 2, 3] rfl
    have hL0 : (L_X12_pass_22 mPpl mBts mW 0) = (0, mW) := iter_z _ _
    exact lp22 d.toNatClampNeg 0 (Nat.zero_add _) _ _ _ _ hP hD hS hF (by rw [hL0]; exact hB0) (by rw [hL0]; exact lv_sub hl [0, 1, 2, 3] rfl)
  · refine lv_iconst (v := (-1)) S.1 S.2.1 dX12_pass_12 (by decide) ?_
    have hf : (f_X12_pass mPpl mBts mUs mW mUn d) = ((-1), mUn, mUs, mW) := cd_f c1
    exact g_iret S hr hlk hP hD hS (by rw [hf] <;> rfl) (⟨by rw [hf]; exact hB0, hF⟩) dX12_pass_13
