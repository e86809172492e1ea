def f_X12_needIn (mPpl : Int32) (mBts : Int32) (mNum : Nat → Int32) (mW : Nat → Int32) (d : Int32) : Int32 := (bif (f_X12_in d.toInt64 0 999) then (f_X12_needIn0 mPpl mBts mNum mW d) else (-1))
set_option maxHeartbeats 4000000 in
set_option maxRecDepth 100000 in
theorem c_X12_needIn (l : Launch) (D : va_G) (A : Nat → Prop) (w : va_W) (α : Nat → Nat) (k : Nat) (mTaped : Int32) (mErr : Int32) (mPpl : Int32) (mBts : Int32) (mUs : Int32) (mRa : Int32) (mSt : Int32) (mKi : Int32) (mWd : Int64) (mVal : Int32) (mLet : Int32) (mFin : Int32) (mNp : Int32) (mNb : Int32) (mOuts : Int32) (mWant : Int32) (mFnd : Int32) (mTape : Nat → Int32) (mNum : Nat → Int32) (mNam : Nat → Int32) (mFst : Nat → Int32) (mBnm : Nat → Int32) (mW : Nat → Int32) (mUn : Nat → Int32) (mSl : Nat → Int32) (mKp : Nat → Int32) (mnNum : Nat → Int32) (mnNam : Nat → Int32) (mnBo : Nat → Int32) (mnBn : Nat → Int32) (d : Int32) (hB0 : Blk w k (cM D α k mTaped mErr mPpl mBts mUs mRa mSt mKi mWd mVal mLet mFin mNp mNb mOuts mWant mFnd mTape mNum mNam mFst mBnm mW mUn mSl mKp mnNum mnNam mnBo mnBn)) (hy0 : vp_in (mW 0) 1000000) (hy1 : 0 < mNum 0) (hy2 : vp_in mBts 7) : Met l yX12_needIn (ws_ yX12_needIn cX12_needIn 2 (some .int)) ({ frames := 4, cells := 0, slots := 0, locals := 88 }) (gPre D A [.ref (α (k)), .int d] w) (gR (some (.int (f_X12_needIn mPpl mBts mNum mW d)))) 0 0 A := by
  refine g_met [(0, .ref (α (k))), (1, .int d)] (plainFor_of_name (by decide)) (Nat.le_of_ble_eq_true rfl) rfl (fun pg en s mi ar below me co ls S hK hP hD hE hS hr hlk hnm hl => ?_)
  refine lv_iload_n S.1 S.2.1 dX12_needIn_0 rfl (lv_at hl 1 rfl) ?_
  refine lv_i2l (v := d.toInt64) S.1 S.2.1 dX12_needIn_1 rfl ?_
  refine lv_lconst (v := 0) S.1 S.2.1 dX12_needIn_2 (by decide) ?_
  refine lv_ldc2 (v := 999) S.1 S.2.1 S.2.2.2.1 (S.2.2.2.2 _ qw1860) dX12_needIn_3 ?_
  refine g_aftR0 (st1 := [.int (b2i (f_X12_in d.toInt64 0 999))]) (g_St (As := [.long d.toInt64, .long 0, .long 999]) (rest := []) S ms_X12_in qw1477 (c_X12_in l D A w α d.toInt64 0 999) hK hP hD hE hS rfl rfl hl.1 (Nat.le_of_ble_eq_true rfl) rfl rfl ⟨(Nat.le_of_ble_eq_true rfl), (Nat.le_of_ble_eq_true rfl)⟩ ⟨(Nat.le_of_ble_eq_true rfl), (Nat.le_of_ble_eq_true rfl)⟩ dX12_needIn_6) hS rfl (fun locs hS => ?_)
  refine g_bifeq (b := (f_X12_in d.toInt64 0 999)) (tgt := 20) S dX12_needIn_9 (by decide) (fun (c1 : (f_X12_in d.toInt64 0 999) = false) => ?_) (fun (c1 : (f_X12_in d.toInt64 0 999) = true) => ?_)
  · refine lv_iconst (v := (-1)) S.1 S.2.1 dX12_needIn_20 (by decide) ?_
    have hf : (f_X12_needIn mPpl mBts mNum mW d) = (-1) := cd_f c1
    exact g_iretR S hr hlk hS (by rw [hf] <;> rfl) dX12_needIn_21
  · refine lv_aload_n S.1 S.2.1 dX12_needIn_12 rfl (lv_at hl 0 rfl) ?_
    refine lv_iload_n S.1 S.2.1 dX12_needIn_13 rfl (lv_at hl 1 rfl) ?_
    refine g_aftR0 (st1 := [.int (f_X12_needIn0 mPpl mBts mNum mW d)]) (g_V (As := [.int d]) (rest := []) S mi_X12_needIn0 qw1696 (c_X12_needIn0 l D A w α (k) mTaped mErr mPpl mBts mUs mRa mSt mKi mWd mVal mLet mFin mNp mNb mOuts mWant mFnd mTape mNum mNam mFst mBnm mW mUn mSl mKp mnNum mnNam mnBo mnBn d hB0 (by exact day_nn (by assumption) (in_vin (b := 999) (by decide) (by assumption))) (by first | assumption | exact vin_d (by decide) | exact vp_in_nI (by omega) (by decide) | decide | omega) (by first | assumption | exact vin_d (by decide) | exact vp_in_nI (by omega) (by decide) | decide | omega)) hK hP hD hE hS (hB0 0 _ rfl) rfl rfl rfl hl.1 (Nat.le_of_ble_eq_true rfl) rfl rfl ⟨(Nat.le_of_ble_eq_true rfl), (Nat.le_of_ble_eq_true rfl)⟩ ⟨(Nat.le_of_ble_eq_true rfl), (Nat.le_of_ble_eq_true rfl)⟩ dX12_needIn_14) hS rfl (fun locs hS => ?_)
    refine lv_goto (tgt := 21) S.1 S.2.1 dX12_needIn_17 (by decide) ?_
    have hf : (f_X12_needIn mPpl mBts mNum mW d) = (f_X12_needIn0 mPpl mBts mNum mW d) := cd_t c1
    exact g_iretR S hr hlk hS (by rw [hf] <;> rfl) dX12_needIn_21
def L_X12_ashoreOn_4 (mW : Nat → Int32) (d : Int32) : Nat → Int32 := iter_ (fun n sn => (bif (f_X12_isAtSea mW (nI n)) then (if (f_X12_ofBoat mW (f_X12_of mW (nI n) 1) 1) ≤ d then (sn + 1) else (sn + 0)) else (sn + 1))) 0
def f_X12_ashoreOn (mPpl : Int32) (mW : Nat → Int32) (d : Int32) : Int32 := (L_X12_ashoreOn_4 mW d mPpl.toNatClampNeg)
set_option maxHeartbeats 4000000 in
set_option maxRecDepth 100000 in
theorem c_X12_ashoreOn (l : Launch) (D : va_G) (A : Nat → Prop) (w : va_W) (α : Nat → Nat) (k : Nat) (mTaped : Int32) (mErr : Int32) (mPpl : Int32) (mBts : Int32) (mUs : Int32) (mRa : Int32) (mSt : Int32) (mKi : Int32) (mWd : Int64) (mVal : Int32) (mLet : Int32) (mFin : Int32) (mNp : Int32) (mNb : Int32) (mOuts : Int32) (mWant : Int32) (mFnd : Int32) (mTape : Nat → Int32) (mNum : Nat → Int32) (mNam : Nat → Int32) (mFst : Nat → Int32) (mBnm : Nat → Int32) (mW : Nat → Int32) (mUn : Nat → Int32) (mSl : Nat → Int32) (mKp : Nat → Int32) (mnNum : Nat → Int32) (mnNam : Nat → Int32) (mnBo : Nat → Int32) (mnBn : Nat → Int32) (d : Int32) (hB0 : Blk w k (cM D α k mTaped mErr mPpl mBts mUs mRa mSt mKi mWd mVal mLet mFin mNp mNb mOuts mWant mFnd mTape mNum mNam mFst mBnm mW mUn mSl mKp mnNum mnNam mnBo mnBn)) (hy0 : vp_in mPpl 21) (hy1 : ∀ q, vp_in q 20 → f_X12_of mW q 1 < 6) : Met l yX12_ashoreOn (ws_ yX12_ashoreOn cX12_ashoreOn 4 (some .int)) ({ frames := 2, cells := 0, slots := 0, locals := 43 }) (gPre D A [.ref (α (k)), .int d] w) (gR (some (.int (f_X12_ashoreOn mPpl mW d)))) 0 0 A := by
  refine g_met [(0, .ref (α (k))), (1, .int d)] (plainFor_of_name (by decide)) (Nat.le_of_ble_eq_true rfl) rfl (fun pg en s mi ar below me co ls S hK hP hD hE hS hr hlk hnm hl => ?_)
  have hpn := vin_lt (show vp_in mPpl 21 by assumption)
  refine lv_iconst (v := 0) S.1 S.2.1 dX12_ashoreOn_0 (by decide) ?_
  refine lv_istore_n (lv' := [(2, .int 0), (0, .ref (α (k))), (1, .int d)]) S.1 S.2.1 dX12_ashoreOn_1 rfl hl (by decide) rfl (fun ls hl => ?_)
  refine lv_iconst (v := 0) S.1 S.2.1 dX12_ashoreOn_2 (by decide) ?_
  refine lv_istore_n (lv' := [(3, .int 0), (2, .int 0), (0, .ref (α (k))), (1, .int d)]) S.1 S.2.1 dX12_ashoreOn_3 rfl hl (by decide) rfl (fun ls hl => ?_)
  have lp4 : ∀ (j n : Nat), n + j = mPpl.toNatClampNeg → ∀ (locs : List Loc) (ls : Array Slot), va_S A s.heap s.heap locs → lv_has ls 4 [(3, .int (nI n)), (2, .int (L_X12_ashoreOn_4 mW d n)), (0, .ref (α (k))), (1, .int d)] → W pg l en ({ frames := 2, cells := 0, slots := 0, locals := 43 } : Room) s mi ar below me co s.heap locs 0 0 (MQ below (gR (some (.int (f_X12_ashoreOn mPpl mW d)))) ar s 0 0 A) (F0 mi 4 ls []) := by
    intro j
    induction j with
    | zero =>
      intro n hn locs ls hS hl
      have hn : mPpl.toNatClampNeg = n := hn.symm
      subst hn
      refine lv_iload_n S.1 S.2.1 dX12_ashoreOn_4 rfl (lv_at hl 0 rfl) ?_
      refine lv_aload_n S.1 S.2.1 dX12_ashoreOn_5 rfl (lv_at hl 2 rfl) ?_
      refine g_get (v := .int mPpl) S hK hP (hB0 0 _ rfl) rfl inX12 4 (by decide) qw1378 rfl dX12_ashoreOn_6 ?_
      refine lv_icmp_ge (tgt := 49) S.1 S.2.1 dX12_ashoreOn_9 (by decide) (fun (c1 : mPpl ≤ (nI mPpl.toNatClampNeg)) => ?_) (fun (c1 : ¬ mPpl ≤ (nI mPpl.toNatClampNeg)) => absurd c1 (lp_out (s := 0) ((Nat.max_eq_left (Nat.zero_le _)).symm)))
      refine lv_iload_n S.1 S.2.1 dX12_ashoreOn_49 rfl (lv_at hl 1 rfl) ?_
      have hf : (f_X12_ashoreOn mPpl mW d) = (L_X12_ashoreOn_4 mW d mPpl.toNatClampNeg) := rfl
      exact g_iretR S hr hlk hS (by rw [hf] <;> rfl) dX12_ashoreOn_50
    | succ j ih =>
      intro n hn locs ls hS hl
      refine lv_iload_n S.1 S.2.1 dX12_ashoreOn_4 rfl (lv_at hl 0 rfl) ?_
      refine lv_aload_n S.1 S.2.1 dX12_ashoreOn_5 rfl (lv_at hl 2 rfl) ?_
      refine g_get (v := .int mPpl) S hK hP (hB0 0 _ rfl) rfl inX12 4 (by decide) qw1378 rfl dX12_ashoreOn_6 ?_
      refine lv_icmp_ge (tgt := 49) S.1 S.2.1 dX12_ashoreOn_9 (by decide) (fun (c2 : mPpl ≤ (nI n)) => absurd c2 (lp_in (s := 0) (rfl) hn)) (fun (c2 : ¬ mPpl ≤ (nI n)) => ?_)
      refine lv_iload_n S.1 S.2.1 dX12_ashoreOn_12 rfl (lv_at hl 1 rfl) ?_
      refine lv_aload_n S.1 S.2.1 dX12_ashoreOn_13 rfl (lv_at hl 2 rfl) ?_
      refine lv_iload_n S.1 S.2.1 dX12_ashoreOn_14 rfl (lv_at hl 0 rfl) ?_
      refine g_aftR0 (st1 := [.int (b2i (f_X12_isAtSea mW (nI n))), .int (L_X12_ashoreOn_4 mW d n)]) (g_V (As := [.int (nI n)]) (rest := [.int (L_X12_ashoreOn_4 mW d n)]) S mi_X12_isAtSea qw1583 (c_X12_isAtSea l D A w α (k) mTaped mErr mPpl mBts mUs mRa mSt mKi mWd mVal mLet mFin mNp mNb mOuts mWant mFnd mTape mNum mNam mFst mBnm mW mUn mSl mKp mnNum mnNam mnBo mnBn (nI n) hB0 (by first | assumption | exact vin_d (by decide) | exact vp_in_nI (by omega) (by decide) | decide | omega)) hK hP hD hE hS (hB0 0 _ rfl) rfl rfl rfl hl.1 (Nat.le_of_ble_eq_true rfl) rfl rfl ⟨(Nat.le_of_ble_eq_true rfl), (Nat.le_of_ble_eq_true rfl)⟩ ⟨(Nat.le_of_ble_eq_true rfl), (Nat.le_of_ble_eq_true rfl)⟩ dX12_ashoreOn_15) hS rfl (fun locs hS => ?_)
      refine g_bifeq (b := (f_X12_isAtSea mW (nI n))) (tgt := 40) S dX12_ashoreOn_18 (by decide) (fun (c3 : (f_X12_isAtSea mW (nI n)) = false) => ?_) (fun (c3 : (f_X12_isAtSea mW (nI n)) = true) => ?_)
      · refine lv_iconst (v := 1) S.1 S.2.1 dX12_ashoreOn_40 (by decide) ?_
        refine lv_iadd S.1 S.2.1 dX12_ashoreOn_41 ?_
        refine lv_istore_n (lv' := [(2, .int ((L_X12_ashoreOn_4 mW d n) + 1)), (3, .int (nI n)), (0, .ref (α (k))), (1, .int d)]) S.1 S.2.1 dX12_ashoreOn_42 rfl hl (by decide) rfl (fun ls hl => ?_)
        refine lv_iinc (v := (nI (n + 1))) (lv' := [(3, .int (nI (n + 1))), (2, .int ((L_X12_ashoreOn_4 mW d n) + 1)), (0, .ref (α (k))), (1, .int d)]) S.1 S.2.1 dX12_ashoreOn_43 hl (k := 1) rfl ((nI_succ n).symm) (by decide) rfl (fun ls hl => ?_)
        refine lv_goto (tgt := 4) S.1 S.2.1 dX12_ashoreOn_46 (by decide) ?_
        have hL : (L_X12_ashoreOn_4 mW d (n + 1)) = ((L_X12_ashoreOn_4 mW d n) + 1) := (iter_s _ _ _).trans (cd_f c3)
        refine ih (n + 1) (by omega) _ _ hS ?_
        rw [hL]; exact lv_sub hl [0, 1, 2, 3] rfl
      · refine lv_aload_n S.1 S.2.1 dX12_ashoreOn_21 rfl (lv_at hl 2 rfl) ?_
        refine lv_aload_n S.1 S.2.1 dX12_ashoreOn_22 rfl (lv_at hl 2 rfl) ?_
        refine lv_iload_n S.1 S.2.1 dX12_ashoreOn_23 rfl (lv_at hl 0 rfl) ?_
        refine lv_iconst (v := 1) S.1 S.2.1 dX12_ashoreOn_24 (by decide) ?_
        refine g_aftR0 (st1 := [.int (f_X12_of mW (nI n) 1), .ref (α (k)), .int (L_X12_ashoreOn_4 mW d n)]) (g_V (As := [.int (nI n), .int 1]) (rest := [.ref (α (k)), .int (L_X12_ashoreOn_4 mW d n)]) S mi_X12_of qw1579 (c_X12_of l D A w α (k) mTaped mErr mPpl mBts mUs mRa mSt mKi mWd mVal mLet mFin mNp mNb mOuts mWant mFnd mTape mNum mNam mFst mBnm mW mUn mSl mKp mnNum mnNam mnBo mnBn (nI n) 1 hB0 (by first | assumption | exact vin_d (by decide) | exact vp_in_nI (by omega) (by decide) | decide | omega) (by first | assumption | exact vin_d (by decide) | exact vp_in_nI (by omega) (by decide) | decide | omega)) hK hP hD hE hS (hB0 0 _ rfl) rfl rfl rfl hl.1 (Nat.le_of_ble_eq_true rfl) rfl rfl ⟨(Nat.le_of_ble_eq_true rfl), (Nat.le_of_ble_eq_true rfl)⟩ ⟨(Nat.le_of_ble_eq_true rfl), (Nat.le_of_ble_eq_true rfl)⟩ dX12_ashoreOn_25) hS rfl (fun locs hS => ?_)
        refine lv_iconst (v := 1) S.1 S.2.1 dX12_ashoreOn_28 (by decide) ?_
        refine g_aftR0 (st1 := [.int (f_X12_ofBoat mW (f_X12_of mW (nI n) 1) 1), .int (L_X12_ashoreOn_4 mW d n)]) (g_V (As := [.int (f_X12_of mW (nI n) 1), .int 1]) (rest := [.int (L_X12_ashoreOn_4 mW d n)]) S mi_X12_ofBoat qw1571 (c_X12_ofBoat l D A w α (k) mTaped mErr mPpl mBts mUs mRa mSt mKi mWd mVal mLet mFin mNp mNb mOuts mWant mFnd mTape mNum mNam mFst mBnm mW mUn mSl mKp mnNum mnNam mnBo mnBn (f_X12_of mW (nI n) 1) 1 hB0 (by exact sea_in (by assumption) (vp_in_nI (by omega) (by decide)) (by assumption)) (by first | assumption | exact vin_d (by decide) | exact vp_in_nI (by omega) (by decide) | decide | omega)) hK hP hD hE hS (hB0 0 _ rfl) rfl rfl rfl hl.1 (Nat.le_of_ble_eq_true rfl) rfl rfl ⟨(Nat.le_of_ble_eq_true rfl), (Nat.le_of_ble_eq_true rfl)⟩ ⟨(Nat.le_of_ble_eq_true rfl), (Nat.le_of_ble_eq_true rfl)⟩ dX12_ashoreOn_29) hS rfl (fun locs hS => ?_)
        refine lv_iload_n S.1 S.2.1 dX12_ashoreOn_32 rfl (lv_at hl 3 rfl) ?_
        refine lv_icmp_le (tgt := 40) S.1 S.2.1 dX12_ashoreOn_33 (by decide) (fun (c4 : (f_X12_ofBoat mW (f_X12_of mW (nI n) 1) 1) ≤ d) => ?_) (fun (c4 : ¬ (f_X12_ofBoat mW (f_X12_of mW (nI n) 1) 1) ≤ d) => ?_)
        · refine lv_iconst (v := 1) S.1 S.2.1 dX12_ashoreOn_40 (by decide) ?_
          refine lv_iadd S.1 S.2.1 dX12_ashoreOn_41 ?_
          refine lv_istore_n (lv' := [(2, .int ((L_X12_ashoreOn_4 mW d n) + 1)), (3, .int (nI n)), (0, .ref (α (k))), (1, .int d)]) S.1 S.2.1 dX12_ashoreOn_42 rfl hl (by decide) rfl (fun ls hl => ?_)
          refine lv_iinc (v := (nI (n + 1))) (lv' := [(3, .int (nI (n + 1))), (2, .int ((L_X12_ashoreOn_4 mW d n) + 1)), (0, .ref (α (k))), (1, .int d)]) S.1 S.2.1 dX12_ashoreOn_43 hl (k := 1) rfl ((nI_succ n).symm) (by decide) rfl (fun ls hl => ?_)
          refine lv_goto (tgt := 4) S.1 S.2.1 dX12_ashoreOn_46 (by decide) ?_
          have hL : (L_X12_ashoreOn_4 mW d (n + 1)) = ((L_X12_ashoreOn_4 mW d n) + 1) := (iter_s _ _ _).trans ((cd_t c3).trans (if_pos c4))
          refine ih (n + 1) (by omega) _ _ hS ?_
          rw [hL]; exact lv_sub hl [0, 1, 2, 3] rfl
        · refine lv_iconst (v := 0) S.1 S.2.1 dX12_ashoreOn_36 (by decide) ?_
          refine lv_goto (tgt := 41) S.1 S.2.1 dX12_ashoreOn_37 (by decide) ?_
          refine lv_iadd S.1 S.2.1 dX12_ashoreOn_41 ?_
          refine lv_istore_n (lv' := [(2, .int ((L_X12_ashoreOn_4 mW d n) + 0)), (3, .int (nI n)), (0, .ref (α (k))), (1, .int d)]) S.1 S.2.1 dX12_ashoreOn_42 rfl hl (by decide) rfl (fun ls hl => ?_)
          refine lv_iinc (v := (nI (n + 1))) (lv' := [(3, .int (nI (n + 1))), (2, .int ((L_X12_ashoreOn_4 mW d n) + 0)), (0, .ref (α (k))), (1, .int d)]) S.1 S.2.1 dX12_ashoreOn_43 hl (k := 1) rfl ((nI_succ n).symm) (by decide) rfl (fun ls hl => ?_)
          refine lv_goto (tgt := 4) S.1 S.2.1 dX12_ashoreOn_46 (by decide) ?_
          have hL : (L_X12_ashoreOn_4 mW d (n + 1)) = ((L_X12_ashoreOn_4 mW d n) + 0) := (iter_s _ _ _).trans ((cd_t c3).trans (if_neg c4))
          refine ih (n + 1) (by omega) _ _ hS ?_
          rw [hL]; exact lv_sub hl [0, 1, 2, 3] rfl
  have hL0 : (L_X12_ashoreOn_4 mW d 0) = 0 := iter_z _ _
  exact lp4 mPpl.toNatClampNeg 0 (Nat.zero_add _) _ _ hS (by rw [hL0]; exact lv_sub hl [0, 1, 2, 3] rfl)
def L_X12_bestDay_21 (mPpl : Int32) (mBts : Int32) (mNum : Nat → Int32) (mW : Nat → Int32) : Nat → Int32 × Int32 := iter_ (fun n sn => (if (nI n) = 0 then (((f_X12_ashoreOn mPpl mW ((mW 0) + (nI n))) - (f_X12_needIn0 mPpl mBts mNum mW (nI n))), (nI n)) else (if ((f_X12_ashoreOn mPpl mW ((mW 0) + (nI n))) - (f_X12_needIn0 mPpl mBts mNum mW (nI n))) ≤ sn.1 then (sn.1, sn.2) else (((f_X12_ashoreOn mPpl mW ((mW 0) + (nI n))) - (f_X12_needIn0 mPpl mBts mNum mW (nI n))), (nI n))))) (0, 0)
def f_X12_bestDay (mPpl : Int32) (mBts : Int32) (mNum : Nat → Int32) (mW : Nat → Int32) (d : Int32) : Int32 := (bif (f_X12_in d.toInt64 1 99) then (L_X12_bestDay_21 mPpl mBts mNum mW (d.toNatClampNeg + 1)).2 else (-1))
set_option maxHeartbeats 4000000 in
set_option maxRecDepth 100000 in
theorem c_X12_bestDay (l : Launch) (D : va_G) (A : Nat → Prop) (w : va_W) (α : Nat → Nat) (k : Nat) (mTaped : Int32) (mErr : Int32) (mPpl : Int32) (mBts : Int32) (mUs : Int32) (mRa : Int32) (mSt : Int32) (mKi : Int32) (mWd : Int64) (mVal : Int32) (mLet : Int32) (mFin : Int32) (mNp : Int32) (mNb : Int32) (mOuts : Int32) (mWant : Int32) (mFnd : Int32) (mTape : Nat → Int32) (mNum : Nat → Int32) (mNam : Nat → Int32) (mFst : Nat → Int32) (mBnm : Nat → Int32) (mW : Nat → Int32) (mUn : Nat → Int32) (mSl : Nat → Int32) (mKp : Nat → Int32) (mnNum : Nat → Int32) (mnNam : Nat → Int32) (mnBo : Nat → Int32) (mnBn : Nat → Int32) (d : Int32) (hB0 : Blk w k (cM D α k mTaped mErr mPpl mBts mUs mRa mSt mKi mWd mVal mLet mFin mNp mNb mOuts mWant mFnd mTape mNum mNam mFst mBnm mW mUn mSl mKp mnNum mnNam mnBo mnBn)) (hy0 : vp_in mPpl 21) (hy1 : ∀ q, vp_in q 20 → f_X12_of mW q 1 < 6) (hy2 : vp_in (mW 0) 1000000) (hy3 : 0 < mNum 0) (hy4 : vp_in mBts 7) : Met l yX12_bestDay (ws_ yX12_bestDay cX12_bestDay 6 (some .int)) ({ frames := 4, cells := 0, slots := 0, locals := 88 }) (gPre D A [.ref (α (k)), .int d] w) (gR (some (.int (f_X12_bestDay mPpl mBts mNum mW d)))) 0 0 A := by
  refine g_met [(0, .ref (α (k))), (1, .int d)] (plainFor_of_name (by decide)) (Nat.le_of_ble_eq_true rfl) rfl (fun pg en s mi ar below me co ls S hK hP hD hE hS hr hlk hnm hl => ?_)
  refine lv_iload_n S.1 S.2.1 dX12_bestDay_0 rfl (lv_at hl 1 rfl) ?_
  refine lv_i2l (v := d.toInt64) S.1 S.2.1 dX12_bestDay_1 rfl ?_
  refine lv_lconst (v := 1) S.1 S.2.1 dX12_bestDay_2 (by decide) ?_
  refine lv_ldc2 (v := 99) S.1 S.2.1 S.2.2.2.1 (S.2.2.2.2 _ qw1566) dX12_bestDay_3 ?_
  refine g_aftR0 (st1 := [.int (b2i (f_X12_in d.toInt64 1 99))]) (g_St (As := [.long d.toInt64, .long 1, .long 99]) (rest := []) S ms_X12_in qw1477 (c_X12_in l D A w α d.toInt64 1 99) hK hP hD hE hS rfl rfl hl.1 (Nat.le_of_ble_eq_true rfl) rfl rfl ⟨(Nat.le_of_ble_eq_true rfl), (Nat.le_of_ble_eq_true rfl)⟩ ⟨(Nat.le_of_ble_eq_true rfl), (Nat.le_of_ble_eq_true rfl)⟩ dX12_bestDay_6) hS rfl (fun locs hS => ?_)
  refine g_bifne (b := (f_X12_in d.toInt64 1 99)) (tgt := 14) S dX12_bestDay_9 (by decide) (fun (c1 : (f_X12_in d.toInt64 1 99) = true) => ?_) (fun (c1 : (f_X12_in d.toInt64 1 99) = false) => ?_)
  · have hd99 : vp_in d 100 := in_vin1 (by decide) (by decide) c1
    refine lv_iconst (v := 0) S.1 S.2.1 dX12_bestDay_14 (by decide) ?_
    refine lv_istore_n (lv' := [(2, .int 0), (0, .ref (α (k))), (1, .int d)]) S.1 S.2.1 dX12_bestDay_15 rfl hl (by decide) rfl (fun ls hl => ?_)
    refine lv_iconst (v := 0) S.1 S.2.1 dX12_bestDay_16 (by decide) ?_
    refine lv_istore_n (lv' := [(3, .int 0), (2, .int 0), (0, .ref (α (k))), (1, .int d)]) S.1 S.2.1 dX12_bestDay_17 rfl hl (by decide) rfl (fun ls hl => ?_)
    refine lv_iconst (v := 0) S.1 S.2.1 dX12_bestDay_18 (by decide) ?_
    refine lv_istore (lv' := [(4, .int 0), (3, .int 0), (2, .int 0), (0, .ref (α (k))), (1, .int d)]) S.1 S.2.1 dX12_bestDay_19 hl (by decide) rfl (fun ls hl => ?_)
    have lp21 : ∀ (j n : Nat), n + j = (d.toNatClampNeg + 1) → ∀ (locs : List Loc) (ls : Array Slot), va_S A s.heap s.heap locs → lv_has ls 6 [(4, .int (nI n)), (3, .int ((L_X12_bestDay_21 mPpl mBts mNum mW n).1)), (2, .int ((L_X12_bestDay_21 mPpl mBts mNum mW n).2)), (0, .ref (α (k))), (1, .int d)] → W pg l en ({ frames := 4, cells := 0, slots := 0, locals := 88 } : Room) s mi ar below me co s.heap locs 0 0 (MQ below (gR (some (.int (f_X12_bestDay mPpl mBts mNum mW d)))) ar s 0 0 A) (F0 mi 21 ls []) := by
      intro j
      induction j with
      | zero =>
        intro n hn locs ls hS hl
        have hn : (d.toNatClampNeg + 1) = n := hn.symm
        subst hn
        refine lv_iload S.1 S.2.1 dX12_bestDay_21 (lv_at hl 0 rfl) ?_
        refine lv_iload_n S.1 S.2.1 dX12_bestDay_23 rfl (lv_at hl 4 rfl) ?_
        refine lv_icmp_gt (tgt := 72) S.1 S.2.1 dX12_bestDay_24 (by decide) (fun (c2 : d < (nI (d.toNatClampNeg + 1))) => ?_) (fun (c2 : ¬ d < (nI (d.toNatClampNeg + 1))) => absurd c2 (bd2_out (by assumption)))
        refine lv_iload_n S.1 S.2.1 dX12_bestDay_72 rfl (lv_at hl 2 rfl) ?_
        have hf : (f_X12_bestDay mPpl mBts mNum mW d) = (L_X12_bestDay_21 mPpl mBts mNum mW (d.toNatClampNeg + 1)).2 := cd_t c1
        exact g_iretR S hr hlk hS (by rw [hf] <;> rfl) dX12_bestDay_73
      | succ j ih =>
        intro n hn locs ls hS hl
        refine lv_iload S.1 S.2.1 dX12_bestDay_21 (lv_at hl 0 rfl) ?_
        refine lv_iload_n S.1 S.2.1 dX12_bestDay_23 rfl (lv_at hl 4 rfl) ?_
        refine lv_icmp_gt (tgt := 72) S.1 S.2.1 dX12_bestDay_24 (by decide) (fun (c3 : d < (nI n)) => absurd c3 (bd2_in (by assumption) hn)) (fun (c3 : ¬ d < (nI n)) => ?_)
        refine lv_aload_n S.1 S.2.1 dX12_bestDay_27 rfl (lv_at hl 3 rfl) ?_
        refine lv_aload_n S.1 S.2.1 dX12_bestDay_28 rfl (lv_at hl 3 rfl) ?_
        refine g_get (v := .ref (α (k + 6))) S hK hP (hB0 0 _ rfl) rfl inX12 9 (by decide) qw1383 rfl dX12_bestDay_29 ?_
        refine lv_iconst (v := 0) S.1 S.2.1 dX12_bestDay_32 (by decide) ?_
        refine g_iald S hK hP (hB0 6 _ rfl) (by first | assumption | exact vin_d (by decide) | exact vp_in_nI (by omega) (by decide) | decide) dX12_bestDay_33 ?_
        refine lv_iload S.1 S.2.1 dX12_bestDay_34 (lv_at hl 0 rfl) ?_
        refine lv_iadd S.1 S.2.1 dX12_bestDay_36 ?_
        refine g_aftR0 (st1 := [.int (f_X12_ashoreOn mPpl mW ((mW 0) + (nI n)))]) (g_V (As := [.int ((mW 0) + (nI n))]) (rest := []) S mi_X12_ashoreOn qw1865 (c_X12_ashoreOn l D A w α (k) mTaped mErr mPpl mBts mUs mRa mSt mKi mWd mVal mLet mFin mNp mNb mOuts mWant mFnd mTape mNum mNam mFst mBnm mW mUn mSl mKp mnNum mnNam mnBo mnBn ((mW 0) + (nI n)) hB0 (by first | assumption | exact vin_d (by decide) | exact vp_in_nI (by omega) (by decide) | decide | omega) (by first | assumption | exact vin_d (by decide) | exact vp_in_nI (by omega) (by decide) | decide | omega)) hK hP hD hE hS (hB0 0 _ rfl) rfl rfl rfl hl.1 (Nat.le_of_ble_eq_true rfl) rfl rfl ⟨(Nat.le_of_ble_eq_true rfl), (Nat.le_of_ble_eq_true rfl)⟩ ⟨(Nat.le_of_ble_eq_true rfl), (Nat.le_of_ble_eq_true rfl)⟩ dX12_bestDay_37) hS rfl (fun locs hS => ?_)
        refine lv_aload_n S.1 S.2.1 dX12_bestDay_40 rfl (lv_at hl 3 rfl) ?_
        refine lv_iload S.1 S.2.1 dX12_bestDay_41 (lv_at hl 0 rfl) ?_
        refine g_aftR0 (st1 := [.int (f_X12_needIn0 mPpl mBts mNum mW (nI n)), .int (f_X12_ashoreOn mPpl mW ((mW 0) + (nI n)))]) (g_V (As := [.int (nI n)]) (rest := [.int (f_X12_ashoreOn mPpl mW ((mW 0) + (nI n)))]) S mi_X12_needIn0 qw1696 (c_X12_needIn0 l D A w α (k) mTaped mErr mPpl mBts mUs mRa mSt mKi mWd mVal mLet mFin mNp mNb mOuts mWant mFnd mTape mNum mNam mFst mBnm mW mUn mSl mKp mnNum mnNam mnBo mnBn (nI n) hB0 (by exact day_nn (by assumption) (vp_in_nI (by have := (vin_nI hd99).2; omega) (by decide))) (by first | assumption | exact vin_d (by decide) | exact vp_in_nI (by omega) (by decide) | decide | omega) (by first | assumption | exact vin_d (by decide) | exact vp_in_nI (by omega) (by decide) | decide | omega)) hK hP hD hE hS (hB0 0 _ rfl) rfl rfl rfl hl.1 (Nat.le_of_ble_eq_true rfl) rfl rfl ⟨(Nat.le_of_ble_eq_true rfl), (Nat.le_of_ble_eq_true rfl)⟩ ⟨(Nat.le_of_ble_eq_true rfl), (Nat.le_of_ble_eq_true rfl)⟩ dX12_bestDay_43) hS rfl (fun locs hS => ?_)
        refine lv_isub S.1 S.2.1 dX12_bestDay_46 ?_
        refine lv_istore (lv' := [(5, .int ((f_X12_ashoreOn mPpl mW ((mW 0) + (nI n))) - (f_X12_needIn0 mPpl mBts mNum mW (nI n)))), (4, .int (nI n)), (3, .int ((L_X12_bestDay_21 mPpl mBts mNum mW n).1)), (2, .int ((L_X12_bestDay_21 mPpl mBts mNum mW n).2)), (0, .ref (α (k))), (1, .int d)]) S.1 S.2.1 dX12_bestDay_47 hl (by decide) rfl (fun ls hl => ?_)
        refine lv_iload S.1 S.2.1 dX12_bestDay_49 (lv_at hl 1 rfl) ?_
        refine lv_if_eq (tgt := 60) S.1 S.2.1 dX12_bestDay_51 (by decide) (fun (c4 : (nI n) = 0) => ?_) (fun (c4 : ¬ (nI n) = 0) => ?_)
        · refine lv_iload S.1 S.2.1 dX12_bestDay_60 (lv_at hl 1 rfl) ?_
          refine lv_istore_n (lv' := [(2, .int (nI n)), (5, .int ((f_X12_ashoreOn mPpl mW ((mW 0) + (nI n))) - (f_X12_needIn0 mPpl mBts mNum mW (nI n)))), (4, .int (nI n)), (3, .int ((L_X12_bestDay_21 mPpl mBts mNum mW n).1)), (0, .ref (α (k))), (1, .int d)]) S.1 S.2.1 dX12_bestDay_62 rfl hl (by decide) rfl (fun ls hl => ?_)
          refine lv_iload S.1 S.2.1 dX12_bestDay_63 (lv_at hl 1 rfl) ?_
          refine lv_istore_n (lv' := [(3, .int ((f_X12_ashoreOn mPpl mW ((mW 0) + (nI n))) - (f_X12_needIn0 mPpl mBts mNum mW (nI n)))), (2, .int (nI n)), (5, .int ((f_X12_ashoreOn mPpl mW ((mW 0) + (nI n))) - (f_X12_needIn0 mPpl mBts mNum mW (nI n)))), (4, .int (nI n)), (0, .ref (α (k))), (1, .int d)]) S.1 S.2.1 dX12_bestDay_65 rfl hl (by decide) rfl (fun ls hl => ?_)
          refine lv_iinc (v := (nI (n + 1))) (lv' := [(4, .int (nI (n + 1))), (3, .int ((f_X12_ashoreOn mPpl mW ((mW 0) + (nI n))) - (f_X12_needIn0 mPpl mBts mNum mW (nI n)))), (2, .int (nI n)), (5, .int ((f_X12_ashoreOn mPpl mW ((mW 0) + (nI n))) - (f_X12_needIn0 mPpl mBts mNum mW (nI n)))), (0, .ref (α (k))), (1, .int d)]) S.1 S.2.1 dX12_bestDay_66 hl (k := 3) rfl ((nI_succ n).symm) (by decide) rfl (fun ls hl => ?_)
          refine lv_goto (tgt := 21) S.1 S.2.1 dX12_bestDay_69 (by decide) ?_
          have hL : (L_X12_bestDay_21 mPpl mBts mNum mW (n + 1)) = (((f_X12_ashoreOn mPpl mW ((mW 0) + (nI n))) - (f_X12_needIn0 mPpl mBts mNum mW (nI n))), (nI n)) := (iter_s _ _ _).trans (if_pos c4)
          refine ih (n + 1) (by omega) _ _ hS ?_
          rw [hL]; exact lv_sub hl [0, 1, 2, 4, 5] rfl
        · refine lv_iload S.1 S.2.1 dX12_bestDay_54 (lv_at hl 0 rfl) ?_
          refine lv_iload_n S.1 S.2.1 dX12_bestDay_56 rfl (lv_at hl 2 rfl) ?_
          refine lv_icmp_le (tgt := 66) S.1 S.2.1 dX12_bestDay_57 (by decide) (fun (c5 : ((f_X12_ashoreOn mPpl mW ((mW 0) + (nI n))) - (f_X12_needIn0 mPpl mBts mNum mW (nI n))) ≤ (L_X12_bestDay_21 mPpl mBts mNum mW n).1) => ?_) (fun (c5 : ¬ ((f_X12_ashoreOn mPpl mW ((mW 0) + (nI n))) - (f_X12_needIn0 mPpl mBts mNum mW (nI n))) ≤ (L_X12_bestDay_21 mPpl mBts mNum mW n).1) => ?_)
          · refine lv_iinc (v := (nI (n + 1))) (lv' := [(4, .int (nI (n + 1))), (5, .int ((f_X12_ashoreOn mPpl mW ((mW 0) + (nI n))) - (f_X12_needIn0 mPpl mBts mNum mW (nI n)))), (3, .int ((L_X12_bestDay_21 mPpl mBts mNum mW n).1)), (2, .int ((L_X12_bestDay_21 mPpl mBts mNum mW n).2)), (0, .ref (α (k))), (1, .int d)]) S.1 S.2.1 dX12_bestDay_66 hl (k := 1) rfl ((nI_succ n).symm) (by decide) rfl (fun ls hl => ?_)
            refine lv_goto (tgt := 21) S.1 S.2.1 dX12_bestDay_69 (by decide) ?_
            have hL : (L_X12_bestDay_21 mPpl mBts mNum mW (n + 1)) = ((L_X12_bestDay_21 mPpl mBts mNum mW n).1, (L_X12_bestDay_21 mPpl mBts mNum mW n).2) := (iter_s _ _ _).trans ((if_neg c4).trans (if_pos c5))
            refine ih (n + 1) (by omega) _ _ hS ?_
            rw [hL]; exact lv_sub hl [0, 2, 3, 4, 5] rfl
          · refine lv_iload S.1 S.2.1 dX12_bestDay_60 (lv_at hl 1 rfl) ?_
            refine lv_istore_n (lv' := [(2, .int (nI n)), (5, .int ((f_X12_ashoreOn mPpl mW ((mW 0) + (nI n))) - (f_X12_needIn0 mPpl mBts mNum mW (nI n)))), (4, .int (nI n)), (3, .int ((L_X12_bestDay_21 mPpl mBts mNum mW n).1)), (0, .ref (α (k))), (1, .int d)]) S.1 S.2.1 dX12_bestDay_62 rfl hl (by decide) rfl (fun ls hl => ?_)
            refine lv_iload S.1 S.2.1 dX12_bestDay_63 (lv_at hl 1 rfl) ?_
            refine lv_istore_n (lv' := [(3, .int ((f_X12_ashoreOn mPpl mW ((mW 0) + (nI n))) - (f_X12_needIn0 mPpl mBts mNum mW (nI n)))), (2, .int (nI n)), (5, .int ((f_X12_ashoreOn mPpl mW ((mW 0) + (nI n))) - (f_X12_needIn0 mPpl mBts mNum mW (nI n)))), (4, .int (nI n)), (0, .ref (α (k))), (1, .int d)]) S.1 S.2.1 dX12_bestDay_65 rfl hl (by decide) rfl (fun ls hl => ?_)
            refine lv_iinc (v := (nI (n + 1))) (lv' := [(4, .int (nI (n + 1))), (3, .int ((f_X12_ashoreOn mPpl mW ((mW 0) + (nI n))) - (f_X12_needIn0 mPpl mBts mNum mW (nI n)))), (2, .int (nI n)), (5, .int ((f_X12_ashoreOn mPpl mW ((mW 0) + (nI n))) - (f_X12_needIn0 mPpl mBts mNum mW (nI n)))), (0, .ref (α (k))), (1, .int d)]) S.1 S.2.1 dX12_bestDay_66 hl (k := 3) rfl ((nI_succ n).symm) (by decide) rfl (fun ls hl => ?_)
            refine lv_goto (tgt := 21) S.1 S.2.1 dX12_bestDay_69 (by decide) ?_
            have hL : (L_X12_bestDay_21 mPpl mBts mNum mW (n + 1)) = (((f_X12_ashoreOn mPpl mW ((mW 0) + (nI n))) - (f_X12_needIn0 mPpl mBts mNum mW (nI n))), (nI n)) := (iter_s _ _ _).trans ((if_neg c4).trans (if_neg c5))
            refine ih (n + 1) (by omega) _ _ hS ?_
            rw [hL]; exact lv_sub hl [0, 1, 2, 4, 5] rfl
    have hL0 : (L_X12_bestDay_21 mPpl mBts mNum mW 0) = (0, 0) := iter_z _ _
    exact lp21 (d.toNatClampNeg + 1) 0 (Nat.zero_add _) _ _ hS (by rw [hL0]; exact lv_sub hl [0, 1, 2, 3, 4] rfl)
  · refine lv_iconst (v := (-1)) S.1 S.2.1 dX12_bestDay_12 (by decide) ?_
    have hf : (f_X12_bestDay mPpl mBts mNum mW d) = (-1) := cd_f c1
    exact g_iretR S hr hlk hS (by rw [hf] <;> rfl) dX12_bestDay_13
def L_X12_mightOf_11 (mPpl : Int32) (mW : Nat → Int32) (p : Int32) : Nat → Int32 := iter_ (fun n sn => (if (((f_X12_carriedBy mPpl mW p) >>> ((nI n) &&& 31)) &&& 1) = 1 then (bif (f_X12_isAtSea mW (nI n)) then (sn + 1) else (sn + 0)) else (sn + 0))) 0
def f_X12_mightOf (mPpl : Int32) (mNum : Nat → Int32) (mW : Nat → Int32) (p : Int32) : Int32 := (if (L_X12_mightOf_11 mPpl mW p mPpl.toNatClampNeg) ≤ (mNum 7) then (bif (f_X12_isOpen mW) then ((L_X12_mightOf_11 mPpl mW p mPpl.toNatClampNeg) - (f_X12_of mW p 4)) else ((L_X12_mightOf_11 mPpl mW p mPpl.toNatClampNeg) - 0)) else (bif (f_X12_isOpen mW) then ((mNum 7) - (f_X12_of mW p 4)) else ((mNum 7) - 0)))
set_option maxHeartbeats 4000000 in
set_option maxRecDepth 100000 in
theorem c_X12_mightOf (l : Launch) (D : va_G) (A : Nat → Prop) (w : va_W) (α : Nat → Nat) (k : Nat) (mTaped : Int32) (mErr : Int32) (mPpl : Int32) (mBts : Int32) (mUs : Int32) (mRa : Int32) (mSt : Int32) (mKi : Int32) (mWd : Int64) (mVal : Int32) (mLet : Int32) (mFin : Int32) (mNp : Int32) (mNb : Int32) (mOuts : Int32) (mWant : Int32) (mFnd : Int32) (mTape : Nat → Int32) (mNum : Nat → Int32) (mNam : Nat → Int32) (mFst : Nat → Int32) (mBnm : Nat → Int32) (mW : Nat → Int32) (mUn : Nat → Int32) (mSl : Nat → Int32) (mKp : Nat → Int32) (mnNum : Nat → Int32) (mnNam : Nat → Int32) (mnBo : Nat → Int32) (mnBn : Nat → Int32) (p : Int32) (hB0 : Blk w k (cM D α k mTaped mErr mPpl mBts mUs mRa mSt mKi mWd mVal mLet mFin mNp mNb mOuts mWant mFnd mTape mNum mNam mFst mBnm mW mUn mSl mKp mnNum mnNam mnBo mnBn)) (hy0 : vp_in mPpl 21) (hy1 : vp_in p 20) : Met l yX12_mightOf (ws_ yX12_mightOf cX12_mightOf 5 (some .int)) ({ frames := 2, cells := 0, slots := 0, locals := 45 }) (gPre D A [.ref (α (k)), .int p] w) (gR (some (.int (f_X12_mightOf mPpl mNum mW p)))) 0 0 A := by
  refine g_met [(0, .ref (α (k))), (1, .int p)] (plainFor_of_name (by decide)) (Nat.le_of_ble_eq_true rfl) rfl (fun pg en s mi ar below me co ls S hK hP hD hE hS hr hlk hnm hl => ?_)
  have hpn := vin_lt (show vp_in mPpl 21 by assumption)
  refine lv_iconst (v := 0) S.1 S.2.1 dX12_mightOf_0 (by decide) ?_
  refine lv_istore_n (lv' := [(2, .int 0), (0, .ref (α (k))), (1, .int p)]) S.1 S.2.1 dX12_mightOf_1 rfl hl (by decide) rfl (fun ls hl => ?_)
  refine lv_aload_n S.1 S.2.1 dX12_mightOf_2 rfl (lv_at hl 1 rfl) ?_
  refine lv_iload_n S.1 S.2.1 dX12_mightOf_3 rfl (lv_at hl 2 rfl) ?_
  refine g_aftR0 (st1 := [.int (f_X12_carriedBy mPpl mW p)]) (g_V (As := [.int p]) (rest := []) S mi_X12_carriedBy qw1641 (c_X12_carriedBy l D A w α (k) mTaped mErr mPpl mBts mUs mRa mSt mKi mWd mVal mLet mFin mNp mNb mOuts mWant mFnd mTape mNum mNam mFst mBnm mW mUn mSl mKp mnNum mnNam mnBo mnBn p hB0 (by first | assumption | exact vin_d (by decide) | exact vp_in_nI (by omega) (by decide) | decide | omega)) hK hP hD hE hS (hB0 0 _ rfl) rfl rfl rfl hl.1 (Nat.le_of_ble_eq_true rfl) rfl rfl ⟨(Nat.le_of_ble_eq_true rfl), (Nat.le_of_ble_eq_true rfl)⟩ ⟨(Nat.le_of_ble_eq_true rfl), (Nat.le_of_ble_eq_true rfl)⟩ dX12_mightOf_4) hS rfl (fun locs hS => ?_)
  refine lv_istore_n (lv' := [(3, .int (f_X12_carriedBy mPpl mW p)), (2, .int 0), (0, .ref (α (k))), (1, .int p)]) S.1 S.2.1 dX12_mightOf_7 rfl hl (by decide) rfl (fun ls hl => ?_)
  refine lv_iconst (v := 0) S.1 S.2.1 dX12_mightOf_8 (by decide) ?_
  refine lv_istore (lv' := [(4, .int 0), (3, .int (f_X12_carriedBy mPpl mW p)), (2, .int 0), (0, .ref (α (k))), (1, .int p)]) S.1 S.2.1 dX12_mightOf_9 hl (by decide) rfl (fun ls hl => ?_)
  have lp11 : ∀ (j n : Nat), n + j = mPpl.toNatClampNeg → ∀ (locs : List Loc) (ls : Array Slot), va_S A s.heap s.heap locs → lv_has ls 5 [(4, .int (nI n)), (3, .int (f_X12_carriedBy mPpl mW p)), (2, .int (L_X12_mightOf_11 mPpl mW p n)), (0, .ref (α (k))), (1, .int p)] → W pg l en ({ frames := 2, cells := 0, slots := 0, locals := 45 } : Room) s mi ar below me co s.heap locs 0 0 (MQ below (gR (some (.int (f_X12_mightOf mPpl mNum mW p)))) ar s 0 0 A) (F0 mi 11 ls []) := by
    intro j
    induction j with
    | zero =>
      intro n hn locs ls hS hl
      have hn : mPpl.toNatClampNeg = n := hn.symm
      subst hn
      refine lv_iload S.1 S.2.1 dX12_mightOf_11 (lv_at hl 0 rfl) ?_
      refine lv_aload_n S.1 S.2.1 dX12_mightOf_13 rfl (lv_at hl 3 rfl) ?_
      refine g_get (v := .int mPpl) S hK hP (hB0 0 _ rfl) rfl inX12 4 (by decide) qw1378 rfl dX12_mightOf_14 ?_
      refine lv_icmp_ge (tgt := 53) S.1 S.2.1 dX12_mightOf_17 (by decide) (fun (c1 : mPpl ≤ (nI mPpl.toNatClampNeg)) => ?_) (fun (c1 : ¬ mPpl ≤ (nI mPpl.toNatClampNeg)) => absurd c1 (lp_out (s := 0) ((Nat.max_eq_left (Nat.zero_le _)).symm)))
      refine lv_iload_n S.1 S.2.1 dX12_mightOf_53 rfl (lv_at hl 2 rfl) ?_
      refine lv_aload_n S.1 S.2.1 dX12_mightOf_54 rfl (lv_at hl 3 rfl) ?_
      refine g_get (v := .ref (α (k + 2))) S hK hP (hB0 0 _ rfl) rfl inX12 3 (by decide) qw1377 rfl dX12_mightOf_55 ?_
      refine lv_bipush (v := 7) S.1 S.2.1 dX12_mightOf_58 (by decide) ?_
      refine g_iald S hK hP (hB0 2 _ rfl) (by first | assumption | exact vin_d (by decide) | exact vp_in_nI (by omega) (by decide) | decide) dX12_mightOf_60 ?_
      refine lv_icmp_le (tgt := 74) S.1 S.2.1 dX12_mightOf_61 (by decide) (fun (c2 : (L_X12_mightOf_11 mPpl mW p mPpl.toNatClampNeg) ≤ (mNum 7)) => ?_) (fun (c2 : ¬ (L_X12_mightOf_11 mPpl mW p mPpl.toNatClampNeg) ≤ (mNum 7)) => ?_)
      · refine lv_iload_n S.1 S.2.1 dX12_mightOf_74 rfl (lv_at hl 2 rfl) ?_
        refine lv_istore_n (lv' := [(2, .int (L_X12_mightOf_11 mPpl mW p mPpl.toNatClampNeg)), (4, .int (nI mPpl.toNatClampNeg)), (3, .int (f_X12_carriedBy mPpl mW p)), (0, .ref (α (k))), (1, .int p)]) S.1 S.2.1 dX12_mightOf_75 rfl hl (by decide) rfl (fun ls hl => ?_)
        refine lv_iload_n S.1 S.2.1 dX12_mightOf_76 rfl (lv_at hl 0 rfl) ?_
        refine lv_aload_n S.1 S.2.1 dX12_mightOf_77 rfl (lv_at hl 3 rfl) ?_
        refine g_aftR0 (st1 := [.int (b2i (f_X12_isOpen mW)), .int (L_X12_mightOf_11 mPpl mW p mPpl.toNatClampNeg)]) (g_V (As := []) (rest := [.int (L_X12_mightOf_11 mPpl mW p mPpl.toNatClampNeg)]) S mi_X12_isOpen qw1621 (c_X12_isOpen l D A w α (k) mTaped mErr mPpl mBts mUs mRa mSt mKi mWd mVal mLet mFin mNp mNb mOuts mWant mFnd mTape mNum mNam mFst mBnm mW mUn mSl mKp mnNum mnNam mnBo mnBn hB0) hK hP hD hE hS (hB0 0 _ rfl) rfl rfl rfl hl.1 (Nat.le_of_ble_eq_true rfl) rfl rfl ⟨(Nat.le_of_ble_eq_true rfl), (Nat.le_of_ble_eq_true rfl)⟩ ⟨(Nat.le_of_ble_eq_true rfl), (Nat.le_of_ble_eq_true rfl)⟩ dX12_mightOf_78) hS rfl (fun locs hS => ?_)
        refine g_bifeq (b := (f_X12_isOpen mW)) (tgt := 93) S dX12_mightOf_81 (by decide) (fun (c3 : (f_X12_isOpen mW) = false) => ?_) (fun (c3 : (f_X12_isOpen mW) = true) => ?_)
        · refine lv_iconst (v := 0) S.1 S.2.1 dX12_mightOf_93 (by decide) ?_
          refine lv_isub S.1 S.2.1 dX12_mightOf_94 ?_
          have hf : (f_X12_mightOf mPpl mNum mW p) = ((L_X12_mightOf_11 mPpl mW p mPpl.toNatClampNeg) - 0) := (if_pos c2).trans (cd_f c3)
          exact g_iretR S hr hlk hS (by rw [hf] <;> rfl) dX12_mightOf_95
        · refine lv_aload_n S.1 S.2.1 dX12_mightOf_84 rfl (lv_at hl 3 rfl) ?_
          refine lv_iload_n S.1 S.2.1 dX12_mightOf_85 rfl (lv_at hl 4 rfl) ?_
          refine lv_iconst (v := 4) S.1 S.2.1 dX12_mightOf_86 (by decide) ?_
          refine g_aftR0 (st1 := [.int (f_X12_of mW p 4), .int (L_X12_mightOf_11 mPpl mW p mPpl.toNatClampNeg)]) (g_V (As := [.int p, .int 4]) (rest := [.int (L_X12_mightOf_11 mPpl mW p mPpl.toNatClampNeg)]) S mi_X12_of qw1579 (c_X12_of l D A w α (k) mTaped mErr mPpl mBts mUs mRa mSt mKi mWd mVal mLet mFin mNp mNb mOuts mWant mFnd mTape mNum mNam mFst mBnm mW mUn mSl mKp mnNum mnNam mnBo mnBn p 4 hB0 (by first | assumption | exact vin_d (by decide) | exact vp_in_nI (by omega) (by decide) | decide | omega) (by first | assumption | exact vin_d (by decide) | exact vp_in_nI (by omega) (by decide) | decide | omega)) hK hP hD hE hS (hB0 0 _ rfl) rfl rfl rfl hl.1 (Nat.le_of_ble_eq_true rfl) rfl rfl ⟨(Nat.le_of_ble_eq_true rfl), (Nat.le_of_ble_eq_true rfl)⟩ ⟨(Nat.le_of_ble_eq_true rfl), (Nat.le_of_ble_eq_true rfl)⟩ dX12_mightOf_87) hS rfl (fun locs hS => ?_)
          refine lv_goto (tgt := 94) S.1 S.2.1 dX12_mightOf_90 (by decide) ?_
          refine lv_isub S.1 S.2.1 dX12_mightOf_94 ?_
          have hf : (f_X12_mightOf mPpl mNum mW p) = ((L_X12_mightOf_11 mPpl mW p mPpl.toNatClampNeg) - (f_X12_of mW p 4)) := (if_pos c2).trans (cd_t c3)
          exact g_iretR S hr hlk hS (by rw [hf] <;> rfl) dX12_mightOf_95
      · refine lv_aload_n S.1 S.2.1 dX12_mightOf_64 rfl (lv_at hl 3 rfl) ?_
        refine g_get (v := .ref (α (k + 2))) S hK hP (hB0 0 _ rfl) rfl inX12 3 (by decide) qw1377 rfl dX12_mightOf_65 ?_
        refine lv_bipush (v := 7) S.1 S.2.1 dX12_mightOf_68 (by decide) ?_
        refine g_iald S hK hP (hB0 2 _ rfl) (by first | assumption | exact vin_d (by decide) | exact vp_in_nI (by omega) (by decide) | decide) dX12_mightOf_70 ?_
        refine lv_goto (tgt := 75) S.1 S.2.1 dX12_mightOf_71 (by decide) ?_
        refine lv_istore_n (lv' := [(2, .int (mNum 7)), (4, .int (nI mPpl.toNatClampNeg)), (3, .int (f_X12_carriedBy mPpl mW p)), (0, .ref (α (k))), (1, .int p)]) S.1 S.2.1 dX12_mightOf_75 rfl hl (by decide) rfl (fun ls hl => ?_)
        refine lv_iload_n S.1 S.2.1 dX12_mightOf_76 rfl (lv_at hl 0 rfl) ?_
        refine lv_aload_n S.1 S.2.1 dX12_mightOf_77 rfl (lv_at hl 3 rfl) ?_
        refine g_aftR0 (st1 := [.int (b2i (f_X12_isOpen mW)), .int (mNum 7)]) (g_V (As := []) (rest := [.int (mNum 7)]) S mi_X12_isOpen qw1621 (c_X12_isOpen l D A w α (k) mTaped mErr mPpl mBts mUs mRa mSt mKi mWd mVal mLet mFin mNp mNb mOuts mWant mFnd mTape mNum mNam mFst mBnm mW mUn mSl mKp mnNum mnNam mnBo mnBn hB0) hK hP hD hE hS (hB0 0 _ rfl) rfl rfl rfl hl.1 (Nat.le_of_ble_eq_true rfl) rfl rfl ⟨(Nat.le_of_ble_eq_true rfl), (Nat.le_of_ble_eq_true rfl)⟩ ⟨(Nat.le_of_ble_eq_true rfl), (Nat.le_of_ble_eq_true rfl)⟩ dX12_mightOf_78) hS rfl (fun locs hS => ?_)
        refine g_bifeq (b := (f_X12_isOpen mW)) (tgt := 93) S dX12_mightOf_81 (by decide) (fun (c4 : (f_X12_isOpen mW) = false) => ?_) (fun (c4 : (f_X12_isOpen mW) = true) => ?_)
        · refine lv_iconst (v := 0) S.1 S.2.1 dX12_mightOf_93 (by decide) ?_
          refine lv_isub S.1 S.2.1 dX12_mightOf_94 ?_
          have hf : (f_X12_mightOf mPpl mNum mW p) = ((mNum 7) - 0) := (if_neg c2).trans (cd_f c4)
          exact g_iretR S hr hlk hS (by rw [hf] <;> rfl) dX12_mightOf_95
        · refine lv_aload_n S.1 S.2.1 dX12_mightOf_84 rfl (lv_at hl 3 rfl) ?_
          refine lv_iload_n S.1 S.2.1 dX12_mightOf_85 rfl (lv_at hl 4 rfl) ?_
          refine lv_iconst (v := 4) S.1 S.2.1 dX12_mightOf_86 (by decide) ?_
          refine g_aftR0 (st1 := [.int (f_X12_of mW p 4), .int (mNum 7)]) (g_V (As := [.int p, .int 4]) (rest := [.int (mNum 7)]) S mi_X12_of qw1579 (c_X12_of l D A w α (k) mTaped mErr mPpl mBts mUs mRa mSt mKi mWd mVal mLet mFin mNp mNb mOuts mWant mFnd mTape mNum mNam mFst mBnm mW mUn mSl mKp mnNum mnNam mnBo mnBn p 4 hB0 (by first | assumption | exact vin_d (by decide) | exact vp_in_nI (by omega) (by decide) | decide | omega) (by first | assumption | exact vin_d (by decide) | exact vp_in_nI (by omega) (by decide) | decide | omega)) hK hP hD hE hS (hB0 0 _ rfl) rfl rfl rfl hl.1 (Nat.le_of_ble_eq_true rfl) rfl rfl ⟨(Nat.le_of_ble_eq_true rfl), (Nat.le_of_ble_eq_true rfl)⟩ ⟨(Nat.le_of_ble_eq_true rfl), (Nat.le_of_ble_eq_true rfl)⟩ dX12_mightOf_87) hS rfl (fun locs hS => ?_)
          refine lv_goto (tgt := 94) S.1 S.2.1 dX12_mightOf_90 (by decide) ?_
          refine lv_isub S.1 S.2.1 dX12_mightOf_94 ?_
          have hf : (f_X12_mightOf mPpl mNum mW p) = ((mNum 7) - (f_X12_of mW p 4)) := (if_neg c2).trans (cd_t c4)
          exact g_iretR S hr hlk hS (by rw [hf] <;> rfl) dX12_mightOf_95
    | succ j ih =>
      intro n hn locs ls hS hl
      refine lv_iload S.1 S.2.1 dX12_mightOf_11 (lv_at hl 0 rfl) ?_
      refine lv_aload_n S.1 S.2.1 dX12_mightOf_13 rfl (lv_at hl 3 rfl) ?_
      refine g_get (v := .int mPpl) S hK hP (hB0 0 _ rfl) rfl inX12 4 (by decide) qw1378 rfl dX12_mightOf_14 ?_
      refine lv_icmp_ge (tgt := 53) S.1 S.2.1 dX12_mightOf_17 (by decide) (fun (c5 : mPpl ≤ (nI n)) => absurd c5 (lp_in (s := 0) (rfl) hn)) (fun (c5 : ¬ mPpl ≤ (nI n)) => ?_)
      refine lv_iload_n S.1 S.2.1 dX12_mightOf_20 rfl (lv_at hl 2 rfl) ?_
      refine lv_iload_n S.1 S.2.1 dX12_mightOf_21 rfl (lv_at hl 1 rfl) ?_
      refine lv_iload S.1 S.2.1 dX12_mightOf_22 (lv_at hl 0 rfl) ?_
      refine lv_ishr S.1 S.2.1 dX12_mightOf_24 ?_
      refine lv_iconst (v := 1) S.1 S.2.1 dX12_mightOf_25 (by decide) ?_
      refine lv_iand S.1 S.2.1 dX12_mightOf_26 ?_
      refine lv_iconst (v := 1) S.1 S.2.1 dX12_mightOf_27 (by decide) ?_
      refine lv_icmp_ne (tgt := 44) S.1 S.2.1 dX12_mightOf_28 (by decide) (fun (c6 : ¬ (((f_X12_carriedBy mPpl mW p) >>> ((nI n) &&& 31)) &&& 1) = 1) => ?_) (fun (c6 : (((f_X12_carriedBy mPpl mW p) >>> ((nI n) &&& 31)) &&& 1) = 1) => ?_)
      · refine lv_iconst (v := 0) S.1 S.2.1 dX12_mightOf_44 (by decide) ?_
        refine lv_iadd S.1 S.2.1 dX12_mightOf_45 ?_
        refine lv_istore_n (lv' := [(2, .int ((L_X12_mightOf_11 mPpl mW p n) + 0)), (4, .int (nI n)), (3, .int (f_X12_carriedBy mPpl mW p)), (0, .ref (α (k))), (1, .int p)]) S.1 S.2.1 dX12_mightOf_46 rfl hl (by decide) rfl (fun ls hl => ?_)
        refine lv_iinc (v := (nI (n + 1))) (lv' := [(4, .int (nI (n + 1))), (2, .int ((L_X12_mightOf_11 mPpl mW p n) + 0)), (3, .int (f_X12_carriedBy mPpl mW p)), (0, .ref (α (k))), (1, .int p)]) S.1 S.2.1 dX12_mightOf_47 hl (k := 1) rfl ((nI_succ n).symm) (by decide) rfl (fun ls hl => ?_)
        refine lv_goto (tgt := 11) S.1 S.2.1 dX12_mightOf_50 (by decide) ?_
        have hL : (L_X12_mightOf_11 mPpl mW p (n + 1)) = ((L_X12_mightOf_11 mPpl mW p n) + 0) := (iter_s _ _ _).trans (if_neg c6)
        refine ih (n + 1) (by omega) _ _ hS ?_
        rw [hL]; exact lv_sub hl [0, 2, 1, 3, 4] rfl
      · refine lv_aload_n S.1 S.2.1 dX12_mightOf_31 rfl (lv_at hl 3 rfl) ?_
        refine lv_iload S.1 S.2.1 dX12_mightOf_32 (lv_at hl 0 rfl) ?_
        refine g_aftR0 (st1 := [.int (b2i (f_X12_isAtSea mW (nI n))), .int (L_X12_mightOf_11 mPpl mW p n)]) (g_V (As := [.int (nI n)]) (rest := [.int (L_X12_mightOf_11 mPpl mW p n)]) S mi_X12_isAtSea qw1583 (c_X12_isAtSea l D A w α (k) mTaped mErr mPpl mBts mUs mRa mSt mKi mWd mVal mLet mFin mNp mNb mOuts mWant mFnd mTape mNum mNam mFst mBnm mW mUn mSl mKp mnNum mnNam mnBo mnBn (nI n) hB0 (by first | assumption | exact vin_d (by decide) | exact vp_in_nI (by omega) (by decide) | decide | omega)) hK hP hD hE hS (hB0 0 _ rfl) rfl rfl rfl hl.1 (Nat.le_of_ble_eq_true rfl) rfl rfl ⟨(Nat.le_of_ble_eq_true rfl), (Nat.le_of_ble_eq_true rfl)⟩ ⟨(Nat.le_of_ble_eq_true rfl), (Nat.le_of_ble_eq_true rfl)⟩ dX12_mightOf_34) hS rfl (fun locs hS => ?_)
        refine g_bifeq (b := (f_X12_isAtSea mW (nI n))) (tgt := 44) S dX12_mightOf_37 (by decide) (fun (c7 : (f_X12_isAtSea mW (nI n)) = false) => ?_) (fun (c7 : (f_X12_isAtSea mW (nI n)) = true) => ?_)
        · refine lv_iconst (v := 0) S.1 S.2.1 dX12_mightOf_44 (by decide) ?_
          refine lv_iadd S.1 S.2.1 dX12_mightOf_45 ?_
          refine lv_istore_n (lv' := [(2, .int ((L_X12_mightOf_11 mPpl mW p n) + 0)), (4, .int (nI n)), (3, .int (f_X12_carriedBy mPpl mW p)), (0, .ref (α (k))), (1, .int p)]) S.1 S.2.1 dX12_mightOf_46 rfl hl (by decide) rfl (fun ls hl => ?_)
          refine lv_iinc (v := (nI (n + 1))) (lv' := [(4, .int (nI (n + 1))), (2, .int ((L_X12_mightOf_11 mPpl mW p n) + 0)), (3, .int (f_X12_carriedBy mPpl mW p)), (0, .ref (α (k))), (1, .int p)]) S.1 S.2.1 dX12_mightOf_47 hl (k := 1) rfl ((nI_succ n).symm) (by decide) rfl (fun ls hl => ?_)
          refine lv_goto (tgt := 11) S.1 S.2.1 dX12_mightOf_50 (by decide) ?_
          have hL : (L_X12_mightOf_11 mPpl mW p (n + 1)) = ((L_X12_mightOf_11 mPpl mW p n) + 0) := (iter_s _ _ _).trans ((if_pos c6).trans (cd_f c7))
          refine ih (n + 1) (by omega) _ _ hS ?_
          rw [hL]; exact lv_sub hl [0, 2, 1, 3, 4] rfl
        · refine lv_iconst (v := 1) S.1 S.2.1 dX12_mightOf_40 (by decide) ?_
          refine lv_goto (tgt := 45) S.1 S.2.1 dX12_mightOf_41 (by decide) ?_
          refine lv_iadd S.1 S.2.1 dX12_mightOf_45 ?_
          refine lv_istore_n (lv' := [(2, .int ((L_X12_mightOf_11 mPpl mW p n) + 1)), (4, .int (nI n)), (3, .int (f_X12_carriedBy mPpl mW p)), (0, .ref (α (k))), (1, .int p)]) S.1 S.2.1 dX12_mightOf_46 rfl hl (by decide) rfl (fun ls hl => ?_)
          refine lv_iinc (v := (nI (n + 1))) (lv' := [(4, .int (nI (n + 1))), (2, .int ((L_X12_mightOf_11 mPpl mW p n) + 1)), (3, .int (f_X12_carriedBy mPpl mW p)), (0, .ref (α (k))), (1, .int p)]) S.1 S.2.1 dX12_mightOf_47 hl (k := 1) rfl ((nI_succ n).symm) (by decide) rfl (fun ls hl => ?_)
          refine lv_goto (tgt := 11) S.1 S.2.1 dX12_mightOf_50 (by decide) ?_
          have hL : (L_X12_mightOf_11 mPpl mW p (n + 1)) = ((L_X12_mightOf_11 mPpl mW p n) + 1) := (iter_s _ _ _).trans ((if_pos c6).trans (cd_t c7))
          refine ih (n + 1) (by omega) _ _ hS ?_
          rw [hL]; exact lv_sub hl [0, 2, 1, 3, 4] rfl
  have hL0 : (L_X12_mightOf_11 mPpl mW p 0) = 0 := iter_z _ _
  exact lp11 mPpl.toNatClampNeg 0 (Nat.zero_add _) _ _ hS (by rw [hL0]; exact lv_sub hl [0, 1, 2, 3, 4] rfl)
def L_X12_mightiest_7 (mPpl : Int32) (mNum : Nat → Int32) (mW : Nat → Int32) : Nat → Int32 × Int32 := iter_ (fun n sn => (bif (f_X12_isAtSea mW (nI n)) then (sn.1, sn.2) else (if (f_X12_mightOf mPpl mNum mW (nI n)) ≤ sn.1 then (sn.1, sn.2) else ((f_X12_mightOf mPpl mNum mW (nI n)), (nI n))))) (0, (-2))
def f_X12_mightiest (mPpl : Int32) (mNum : Nat → Int32) (mW : Nat → Int32) : Int32 := (L_X12_mightiest_7 mPpl mNum mW mPpl.toNatClampNeg).2
set_option maxHeartbeats 4000000 in
set_option maxRecDepth 100000 in
theorem c_X12_mightiest (l : Launch) (D : va_G) (A : Nat → Prop) (w : va_W) (α : Nat → Nat) (k : Nat) (mTaped : Int32) (mErr : Int32) (mPpl : Int32) (mBts : Int32) (mUs : Int32) (mRa : Int32) (mSt : Int32) (mKi : Int32) (mWd : Int64) (mVal : Int32) (mLet : Int32) (mFin : Int32) (mNp : Int32) (mNb : Int32) (mOuts : Int32) (mWant : Int32) (mFnd : Int32) (mTape : Nat → Int32) (mNum : Nat → Int32) (mNam : Nat → Int32) (mFst : Nat → Int32) (mBnm : Nat → Int32) (mW : Nat → Int32) (mUn : Nat → Int32) (mSl : Nat → Int32) (mKp : Nat → Int32) (mnNum : Nat → Int32) (mnNam : Nat → Int32) (mnBo : Nat → Int32) (mnBn : Nat → Int32) (hB0 : Blk w k (cM D α k mTaped mErr mPpl mBts mUs mRa mSt mKi mWd mVal mLet mFin mNp mNb mOuts mWant mFnd mTape mNum mNam mFst mBnm mW mUn mSl mKp mnNum mnNam mnBo mnBn)) (hy0 : vp_in mPpl 21) : Met l yX12_mightiest (ws_ yX12_mightiest cX12_mightiest 4 (some .int)) ({ frames := 3, cells := 0, slots := 0, locals := 69 }) (gPre D A [.ref (α (k))] w) (gR (some (.int (f_X12_mightiest mPpl mNum mW)))) 0 0 A := by
  refine g_met [(0, .ref (α (k)))] (plainFor_of_name (by decide)) (Nat.le_of_ble_eq_true rfl) rfl (fun pg en s mi ar below me co ls S hK hP hD hE hS hr hlk hnm hl => ?_)
  have hpn := vin_lt (show vp_in mPpl 21 by assumption)
  refine lv_bipush (v := (-2)) S.1 S.2.1 dX12_mightiest_0 (by decide) ?_
  refine lv_istore_n (lv' := [(1, .int (-2)), (0, .ref (α (k)))]) S.1 S.2.1 dX12_mightiest_2 rfl hl (by decide) rfl (fun ls hl => ?_)
  refine lv_iconst (v := 0) S.1 S.2.1 dX12_mightiest_3 (by decide) ?_
  refine lv_istore_n (lv' := [(2, .int 0), (1, .int (-2)), (0, .ref (α (k)))]) S.1 S.2.1 dX12_mightiest_4 rfl hl (by decide) rfl (fun ls hl => ?_)
  refine lv_iconst (v := 0) S.1 S.2.1 dX12_mightiest_5 (by decide) ?_
  refine lv_istore_n (lv' := [(3, .int 0), (2, .int 0), (1, .int (-2)), (0, .ref (α (k)))]) S.1 S.2.1 dX12_mightiest_6 rfl hl (by decide) rfl (fun ls hl => ?_)
  have lp7 : ∀ (j n : Nat), n + j = mPpl.toNatClampNeg → ∀ (locs : List Loc) (ls : Array Slot), va_S A s.heap s.heap locs → lv_has ls 4 [(3, .int (nI n)), (2, .int ((L_X12_mightiest_7 mPpl mNum mW n).1)), (1, .int ((L_X12_mightiest_7 mPpl mNum mW n).2)), (0, .ref (α (k)))] → W pg l en ({ frames := 3, cells := 0, slots := 0, locals := 69 } : Room) s mi ar below me co s.heap locs 0 0 (MQ below (gR (some (.int (f_X12_mightiest mPpl mNum mW)))) ar s 0 0 A) (F0 mi 7 ls []) := by
    intro j
    induction j with
    | zero =>
      intro n hn locs ls hS hl
      have hn : mPpl.toNatClampNeg = n := hn.symm
      subst hn
      refine lv_iload_n S.1 S.2.1 dX12_mightiest_7 rfl (lv_at hl 0 rfl) ?_
      refine lv_aload_n S.1 S.2.1 dX12_mightiest_8 rfl (lv_at hl 3 rfl) ?_
      refine g_get (v := .int mPpl) S hK hP (hB0 0 _ rfl) rfl inX12 4 (by decide) qw1378 rfl dX12_mightiest_9 ?_
      refine lv_icmp_ge (tgt := 46) S.1 S.2.1 dX12_mightiest_12 (by decide) (fun (c1 : mPpl ≤ (nI mPpl.toNatClampNeg)) => ?_) (fun (c1 : ¬ mPpl ≤ (nI mPpl.toNatClampNeg)) => absurd c1 (lp_out (s := 0) ((Nat.max_eq_left (Nat.zero_le _)).symm)))
      refine lv_iload_n S.1 S.2.1 dX12_mightiest_46 rfl (lv_at hl 2 rfl) ?_
      have hf : (f_X12_mightiest mPpl mNum mW) = (L_X12_mightiest_7 mPpl mNum mW mPpl.toNatClampNeg).2 := rfl
      exact g_iretR S hr hlk hS (by rw [hf] <;> rfl) dX12_mightiest_47
    | succ j ih =>
      intro n hn locs ls hS hl
      refine lv_iload_n S.1 S.2.1 dX12_mightiest_7 rfl (lv_at hl 0 rfl) ?_
      refine lv_aload_n S.1 S.2.1 dX12_mightiest_8 rfl (lv_at hl 3 rfl) ?_
      refine g_get (v := .int mPpl) S hK hP (hB0 0 _ rfl) rfl inX12 4 (by decide) qw1378 rfl dX12_mightiest_9 ?_
      refine lv_icmp_ge (tgt := 46) S.1 S.2.1 dX12_mightiest_12 (by decide) (fun (c2 : mPpl ≤ (nI n)) => absurd c2 (lp_in (s := 0) (rfl) hn)) (fun (c2 : ¬ mPpl ≤ (nI n)) => ?_)
      refine lv_aload_n S.1 S.2.1 dX12_mightiest_15 rfl (lv_at hl 3 rfl) ?_
      refine lv_iload_n S.1 S.2.1 dX12_mightiest_16 rfl (lv_at hl 0 rfl) ?_
      refine g_aftR0 (st1 := [.int (b2i (f_X12_isAtSea mW (nI n)))]) (g_V (As := [.int (nI n)]) (rest := []) S mi_X12_isAtSea qw1583 (c_X12_isAtSea l D A w α (k) mTaped mErr mPpl mBts mUs mRa mSt mKi mWd mVal mLet mFin mNp mNb mOuts mWant mFnd mTape mNum mNam mFst mBnm mW mUn mSl mKp mnNum mnNam mnBo mnBn (nI n) hB0 (by first | assumption | exact vin_d (by decide) | exact vp_in_nI (by omega) (by decide) | decide | omega)) hK hP hD hE hS (hB0 0 _ rfl) rfl rfl rfl hl.1 (Nat.le_of_ble_eq_true rfl) rfl rfl ⟨(Nat.le_of_ble_eq_true rfl), (Nat.le_of_ble_eq_true rfl)⟩ ⟨(Nat.le_of_ble_eq_true rfl), (Nat.le_of_ble_eq_true rfl)⟩ dX12_mightiest_17) hS rfl (fun locs hS => ?_)
      refine g_bifne (b := (f_X12_isAtSea mW (nI n))) (tgt := 40) S dX12_mightiest_20 (by decide) (fun (c3 : (f_X12_isAtSea mW (nI n)) = true) => ?_) (fun (c3 : (f_X12_isAtSea mW (nI n)) = false) => ?_)
      · refine lv_iinc (v := (nI (n + 1))) (lv' := [(3, .int (nI (n + 1))), (2, .int ((L_X12_mightiest_7 mPpl mNum mW n).1)), (1, .int ((L_X12_mightiest_7 mPpl mNum mW n).2)), (0, .ref (α (k)))]) S.1 S.2.1 dX12_mightiest_40 hl (k := 0) rfl ((nI_succ n).symm) (by decide) rfl (fun ls hl => ?_)
        refine lv_goto (tgt := 7) S.1 S.2.1 dX12_mightiest_43 (by decide) ?_
        have hL : (L_X12_mightiest_7 mPpl mNum mW (n + 1)) = ((L_X12_mightiest_7 mPpl mNum mW n).1, (L_X12_mightiest_7 mPpl mNum mW n).2) := (iter_s _ _ _).trans (cd_t c3)
        refine ih (n + 1) (by omega) _ _ hS ?_
        rw [hL]; exact lv_sub hl [0, 1, 2, 3] rfl
      · refine lv_aload_n S.1 S.2.1 dX12_mightiest_23 rfl (lv_at hl 3 rfl) ?_
        refine lv_iload_n S.1 S.2.1 dX12_mightiest_24 rfl (lv_at hl 0 rfl) ?_
        refine g_aftR0 (st1 := [.int (f_X12_mightOf mPpl mNum mW (nI n))]) (g_V (As := [.int (nI n)]) (rest := []) S mi_X12_mightOf qw1873 (c_X12_mightOf l D A w α (k) mTaped mErr mPpl mBts mUs mRa mSt mKi mWd mVal mLet mFin mNp mNb mOuts mWant mFnd mTape mNum mNam mFst mBnm mW mUn mSl mKp mnNum mnNam mnBo mnBn (nI n) hB0 (by first | assumption | exact vin_d (by decide) | exact vp_in_nI (by omega) (by decide) | decide | omega) (by first | assumption | exact vin_d (by decide) | exact vp_in_nI (by omega) (by decide) | decide | omega)) hK hP hD hE hS (hB0 0 _ rfl) rfl rfl rfl hl.1 (Nat.le_of_ble_eq_true rfl) rfl rfl ⟨(Nat.le_of_ble_eq_true rfl), (Nat.le_of_ble_eq_true rfl)⟩ ⟨(Nat.le_of_ble_eq_true rfl), (Nat.le_of_ble_eq_true rfl)⟩ dX12_mightiest_25) hS rfl (fun locs hS => ?_)
        refine lv_iload_n S.1 S.2.1 dX12_mightiest_28 rfl (lv_at hl 1 rfl) ?_
        refine lv_icmp_le (tgt := 40) S.1 S.2.1 dX12_mightiest_29 (by decide) (fun (c4 : (f_X12_mightOf mPpl mNum mW (nI n)) ≤ (L_X12_mightiest_7 mPpl mNum mW n).1) => ?_) (fun (c4 : ¬ (f_X12_mightOf mPpl mNum mW (nI n)) ≤ (L_X12_mightiest_7 mPpl mNum mW n).1) => ?_)
        · refine lv_iinc (v := (nI (n + 1))) (lv' := [(3, .int (nI (n + 1))), (2, .int ((L_X12_mightiest_7 mPpl mNum mW n).1)), (1, .int ((L_X12_mightiest_7 mPpl mNum mW n).2)), (0, .ref (α (k)))]) S.1 S.2.1 dX12_mightiest_40 hl (k := 0) rfl ((nI_succ n).symm) (by decide) rfl (fun ls hl => ?_)
          refine lv_goto (tgt := 7) S.1 S.2.1 dX12_mightiest_43 (by decide) ?_
          have hL : (L_X12_mightiest_7 mPpl mNum mW (n + 1)) = ((L_X12_mightiest_7 mPpl mNum mW n).1, (L_X12_mightiest_7 mPpl mNum mW n).2) := (iter_s _ _ _).trans ((cd_f c3).trans (if_pos c4))
          refine ih (n + 1) (by omega) _ _ hS ?_
          rw [hL]; exact lv_sub hl [0, 1, 2, 3] rfl
        · refine lv_iload_n S.1 S.2.1 dX12_mightiest_32 rfl (lv_at hl 0 rfl) ?_
          refine lv_istore_n (lv' := [(1, .int (nI n)), (3, .int (nI n)), (2, .int ((L_X12_mightiest_7 mPpl mNum mW n).1)), (0, .ref (α (k)))]) S.1 S.2.1 dX12_mightiest_33 rfl hl (by decide) rfl (fun ls hl => ?_)
          refine lv_aload_n S.1 S.2.1 dX12_mightiest_34 rfl (lv_at hl 3 rfl) ?_
          refine lv_iload_n S.1 S.2.1 dX12_mightiest_35 rfl (lv_at hl 1 rfl) ?_
          refine g_aftR0 (st1 := [.int (f_X12_mightOf mPpl mNum mW (nI n))]) (g_V (As := [.int (nI n)]) (rest := []) S mi_X12_mightOf qw1873 (c_X12_mightOf l D A w α (k) mTaped mErr mPpl mBts mUs mRa mSt mKi mWd mVal mLet mFin mNp mNb mOuts mWant mFnd mTape mNum mNam mFst mBnm mW mUn mSl mKp mnNum mnNam mnBo mnBn (nI n) hB0 (by first | assumption | exact vin_d (by decide) | exact vp_in_nI (by omega) (by decide) | decide | omega) (by first | assumption | exact vin_d (by decide) | exact vp_in_nI (by omega) (by decide) | decide | omega)) hK hP hD hE hS (hB0 0 _ rfl) rfl rfl rfl hl.1 (Nat.le_of_ble_eq_true rfl) rfl rfl ⟨(Nat.le_of_ble_eq_true rfl), (Nat.le_of_ble_eq_true rfl)⟩ ⟨(Nat.le_of_ble_eq_true rfl), (Nat.le_of_ble_eq_true rfl)⟩ dX12_mightiest_36) hS rfl (fun locs hS => ?_)
          refine lv_istore_n (lv' := [(2, .int (f_X12_mightOf mPpl mNum mW (nI n))), (1, .int (nI n)), (3, .int (nI n)), (0, .ref (α (k)))]) S.1 S.2.1 dX12_mightiest_39 rfl hl (by decide) rfl (fun ls hl => ?_)
          refine lv_iinc (v := (nI (n + 1))) (lv' := [(3, .int (nI (n + 1))), (2, .int (f_X12_mightOf mPpl mNum mW (nI n))), (1, .int (nI n)), (0, .ref (α (k)))]) S.1 S.2.1 dX12_mightiest_40 hl (k := 2) rfl ((nI_succ n).symm) (by decide) rfl (fun ls hl => ?_)
          refine lv_goto (tgt := 7) S.1 S.2.1 dX12_mightiest_43 (by decide) ?_
          have hL : (L_X12_mightiest_7 mPpl mNum mW (n + 1)) = ((f_X12_mightOf mPpl mNum mW (nI n)), (nI n)) := (iter_s _ _ _).trans ((cd_f c3).trans (if_neg c4))
          refine ih (n + 1) (by omega) _ _ hS ?_
          rw [hL]; exact lv_sub hl [0, 1, 2, 3] rfl
  have hL0 : (L_X12_mightiest_7 mPpl mNum mW 0) = (0, (-2)) := iter_z _ _
  exact lp7 mPpl.toNatClampNeg 0 (Nat.zero_add _) _ _ hS (by rw [hL0]; exact lv_sub hl [0, 1, 2, 3] rfl)
def L_X12_canWin_30 (mW : Nat → Int32) : Nat → Int32 := iter_ (fun n sn => (bif (f_X12_couldBeLaid mW (nI n)) then (sn ||| ((1 : Int32) <<< ((nI n) &&& 31))) else (sn ||| 0))) 0
def f_X12_canWin (mPpl : Int32) (mBts : Int32) (mNum : Nat → Int32) (mW : Nat → Int32) (b : Int32) : Bool := (bif (f_X12_isBasket b) then (bif (f_X12_isOpen mW) then (if b < (mW 3) then (if (f_X12_resultOf mPpl mW (f_X12_needNow mPpl mBts mNum mW) 0 (L_X12_canWin_30 mW mPpl.toNatClampNeg) b) = b then true else false) else false) else false) else false)
theorem canWin_low {mPpl : Int32} {mW : Nat → Int32} (h : vp_in mPpl 21) : low20 (L_X12_canWin_30 mW mPpl.toNatClampNeg) := by
  have hn := vin_lt h
  refine iter_inv (fun _ (s : Int32) => low20 s) low20_0 (fun n s hn hs => ?_) _ (Nat.le_refl _)
  have hb := low20_bit (n := n) (by omega)
  cases h : f_X12_couldBeLaid mW (nI n)
  · exact low20_or hs low20_0
  · exact low20_or hs hb
set_option maxHeartbeats 4000000 in
set_option maxRecDepth 100000 in
theorem c_X12_canWin (l : Launch) (D : va_G) (A : Nat → Prop) (w : va_W) (α : Nat → Nat) (k : Nat) (mTaped : Int32) (mErr : Int32) (mPpl : Int32) (mBts : Int32) (mUs : Int32) (mRa : Int32) (mSt : Int32) (mKi : Int32) (mWd : Int64) (mVal : Int32) (mLet : Int32) (mFin : Int32) (mNp : Int32) (mNb : Int32) (mOuts : Int32) (mWant : Int32) (mFnd : Int32) (mTape : Nat → Int32) (mNum : Nat → Int32) (mNam : Nat → Int32) (mFst : Nat → Int32) (mBnm : Nat → Int32) (mW : Nat → Int32) (mUn : Nat → Int32) (mSl : Nat → Int32) (mKp : Nat → Int32) (mnNum : Nat → Int32) (mnNam : Nat → Int32) (mnBo : Nat → Int32) (mnBn : Nat → Int32) (b : Int32) (hB0 : Blk w k (cM D α k mTaped mErr mPpl mBts mUs mRa mSt mKi mWd mVal mLet mFin mNp mNb mOuts mWant mFnd mTape mNum mNam mFst mBnm mW mUn mSl mKp mnNum mnNam mnBo mnBn)) (hy0 : vp_in mPpl 21) (hy1 : 0 ≤ mW 0) (hy2 : 0 < mNum 0) (hy3 : vp_in mBts 7) (hy4 : ∀ q, vp_in q 20 → f_X12_of mW q 5 = 1 → vp_in (f_X12_of mW q 6) 20) : Met l yX12_canWin (ws_ yX12_canWin cX12_canWin 4 (some .boolean)) ({ frames := 5, cells := 0, slots := 0, locals := 108 }) (gPre D A [.ref (α (k)), .int b] w) (gR (some (.int (b2i (f_X12_canWin mPpl mBts mNum mW b))))) 0 0 A := by
  refine g_met [(0, .ref (α (k))), (1, .int b)] (plainFor_of_name (by decide)) (Nat.le_of_ble_eq_true rfl) rfl (fun pg en s mi ar below me co ls S hK hP hD hE hS hr hlk hnm hl => ?_)
  have hpn := vin_lt (show vp_in mPpl 21 by assumption)
  refine lv_iload_n S.1 S.2.1 dX12_canWin_0 rfl (lv_at hl 1 rfl) ?_
  refine g_aftR0 (st1 := [.int (b2i (f_X12_isBasket b))]) (g_St (As := [.int b]) (rest := []) S ms_X12_isBasket qw1637 (c_X12_isBasket l D A w α b) hK hP hD hE hS rfl rfl hl.1 (Nat.le_of_ble_eq_true rfl) rfl rfl ⟨(Nat.le_of_ble_eq_true rfl), (Nat.le_of_ble_eq_true rfl)⟩ ⟨(Nat.le_of_ble_eq_true rfl), (Nat.le_of_ble_eq_true rfl)⟩ dX12_canWin_1) hS rfl (fun locs hS => ?_)
  refine g_bifeq (b := (f_X12_isBasket b)) (tgt := 24) S dX12_canWin_4 (by decide) (fun (c1 : (f_X12_isBasket b) = false) => ?_) (fun (c1 : (f_X12_isBasket b) = true) => ?_)
  · refine lv_iconst (v := 0) S.1 S.2.1 dX12_canWin_24 (by decide) ?_
    have hf : (f_X12_canWin mPpl mBts mNum mW b) = false := cd_f c1
    exact g_zretR S hr hlk hS rfl (by rw [hf] <;> rfl) dX12_canWin_25
  · refine lv_aload_n S.1 S.2.1 dX12_canWin_7 rfl (lv_at hl 0 rfl) ?_
    refine g_aftR0 (st1 := [.int (b2i (f_X12_isOpen mW))]) (g_V (As := []) (rest := []) S mi_X12_isOpen qw1621 (c_X12_isOpen l D A w α (k) mTaped mErr mPpl mBts mUs mRa mSt mKi mWd mVal mLet mFin mNp mNb mOuts mWant mFnd mTape mNum mNam mFst mBnm mW mUn mSl mKp mnNum mnNam mnBo mnBn hB0) hK hP hD hE hS (hB0 0 _ rfl) rfl rfl rfl hl.1 (Nat.le_of_ble_eq_true rfl) rfl rfl ⟨(Nat.le_of_ble_eq_true rfl), (Nat.le_of_ble_eq_true rfl)⟩ ⟨(Nat.le_of_ble_eq_true rfl), (Nat.le_of_ble_eq_true rfl)⟩ dX12_canWin_8) hS rfl (fun locs hS => ?_)
    refine g_bifeq (b := (f_X12_isOpen mW)) (tgt := 24) S dX12_canWin_11 (by decide) (fun (c2 : (f_X12_isOpen mW) = false) => ?_) (fun (c2 : (f_X12_isOpen mW) = true) => ?_)
    · refine lv_iconst (v := 0) S.1 S.2.1 dX12_canWin_24 (by decide) ?_
      have hf : (f_X12_canWin mPpl mBts mNum mW b) = false := (cd_t c1).trans (cd_f c2)
      exact g_zretR S hr hlk hS rfl (by rw [hf] <;> rfl) dX12_canWin_25
    · refine lv_iload_n S.1 S.2.1 dX12_canWin_14 rfl (lv_at hl 1 rfl) ?_
      refine lv_aload_n S.1 S.2.1 dX12_canWin_15 rfl (lv_at hl 0 rfl) ?_
      refine g_get (v := .ref (α (k + 6))) S hK hP (hB0 0 _ rfl) rfl inX12 9 (by decide) qw1383 rfl dX12_canWin_16 ?_
      refine lv_iconst (v := 3) S.1 S.2.1 dX12_canWin_19 (by decide) ?_
      refine g_iald S hK hP (hB0 6 _ rfl) (by first | assumption | exact vin_d (by decide) | exact vp_in_nI (by omega) (by decide) | decide) dX12_canWin_20 ?_
      refine lv_icmp_lt (tgt := 26) S.1 S.2.1 dX12_canWin_21 (by decide) (fun (c3 : b < (mW 3)) => ?_) (fun (c3 : ¬ b < (mW 3)) => ?_)
      · refine lv_iconst (v := 0) S.1 S.2.1 dX12_canWin_26 (by decide) ?_
        refine lv_istore_n (lv' := [(2, .int 0), (0, .ref (α (k))), (1, .int b)]) S.1 S.2.1 dX12_canWin_27 rfl hl (by decide) rfl (fun ls hl => ?_)
        refine lv_iconst (v := 0) S.1 S.2.1 dX12_canWin_28 (by decide) ?_
        refine lv_istore_n (lv' := [(3, .int 0), (2, .int 0), (0, .ref (α (k))), (1, .int b)]) S.1 S.2.1 dX12_canWin_29 rfl hl (by decide) rfl (fun ls hl => ?_)
        have lp30 : ∀ (j n : Nat), n + j = mPpl.toNatClampNeg → ∀ (locs : List Loc) (ls : Array Slot), va_S A s.heap s.heap locs → lv_has ls 4 [(3, .int (nI n)), (2, .int (L_X12_canWin_30 mW n)), (0, .ref (α (k))), (1, .int b)] → W pg l en ({ frames := 5, cells := 0, slots := 0, locals := 108 } : Room) s mi ar below me co s.heap locs 0 0 (MQ below (gR (some (.int (b2i (f_X12_canWin mPpl mBts mNum mW b))))) ar s 0 0 A) (F0 mi 30 ls []) := by
          intro j
          induction j with
          | zero =>
            intro n hn locs ls hS hl
            have hn : mPpl.toNatClampNeg = n := hn.symm
            subst hn
            refine lv_iload_n S.1 S.2.1 dX12_canWin_30 rfl (lv_at hl 0 rfl) ?_
            refine lv_aload_n S.1 S.2.1 dX12_canWin_31 rfl (lv_at hl 2 rfl) ?_
            refine g_get (v := .int mPpl) S hK hP (hB0 0 _ rfl) rfl inX12 4 (by decide) qw1378 rfl dX12_canWin_32 ?_
            refine lv_icmp_ge (tgt := 62) S.1 S.2.1 dX12_canWin_35 (by decide) (fun (c4 : mPpl ≤ (nI mPpl.toNatClampNeg)) => ?_) (fun (c4 : ¬ mPpl ≤ (nI mPpl.toNatClampNeg)) => absurd c4 (lp_out (s := 0) ((Nat.max_eq_left (Nat.zero_le _)).symm)))
            refine lv_aload_n S.1 S.2.1 dX12_canWin_62 rfl (lv_at hl 2 rfl) ?_
            refine lv_aload_n S.1 S.2.1 dX12_canWin_63 rfl (lv_at hl 2 rfl) ?_
            refine g_aftR0 (st1 := [.int (f_X12_needNow mPpl mBts mNum mW), .ref (α (k))]) (g_V (As := []) (rest := [.ref (α (k))]) S mi_X12_needNow qw1692 (c_X12_needNow l D A w α (k) mTaped mErr mPpl mBts mUs mRa mSt mKi mWd mVal mLet mFin mNp mNb mOuts mWant mFnd mTape mNum mNam mFst mBnm mW mUn mSl mKp mnNum mnNam mnBo mnBn hB0 (by first | assumption | exact vin_d (by decide) | exact vp_in_nI (by omega) (by decide) | decide | omega) (by first | assumption | exact vin_d (by decide) | exact vp_in_nI (by omega) (by decide) | decide | omega) (by first | assumption | exact vin_d (by decide) | exact vp_in_nI (by omega) (by decide) | decide | omega)) hK hP hD hE hS (hB0 0 _ rfl) rfl rfl rfl hl.1 (Nat.le_of_ble_eq_true rfl) rfl rfl ⟨(Nat.le_of_ble_eq_true rfl), (Nat.le_of_ble_eq_true rfl)⟩ ⟨(Nat.le_of_ble_eq_true rfl), (Nat.le_of_ble_eq_true rfl)⟩ dX12_canWin_64) hS rfl (fun locs hS => ?_)
            refine lv_iconst (v := 0) S.1 S.2.1 dX12_canWin_67 (by decide) ?_
            refine lv_iload_n S.1 S.2.1 dX12_canWin_68 rfl (lv_at hl 1 rfl) ?_
            refine lv_iload_n S.1 S.2.1 dX12_canWin_69 rfl (lv_at hl 3 rfl) ?_
            refine g_aftR0 (st1 := [.int (f_X12_resultOf mPpl mW (f_X12_needNow mPpl mBts mNum mW) 0 (L_X12_canWin_30 mW mPpl.toNatClampNeg) b)]) (g_V (As := [.int (f_X12_needNow mPpl mBts mNum mW), .int 0, .int (L_X12_canWin_30 mW mPpl.toNatClampNeg), .int b]) (rest := []) S mi_X12_resultOf qw1708 (c_X12_resultOf l D A w α (k) mTaped mErr mPpl mBts mUs mRa mSt mKi mWd mVal mLet mFin mNp mNb mOuts mWant mFnd mTape mNum mNam mFst mBnm mW mUn mSl mKp mnNum mnNam mnBo mnBn (f_X12_needNow mPpl mBts mNum mW) 0 (L_X12_canWin_30 mW mPpl.toNatClampNeg) b hB0 (by first | assumption | exact vin_d (by decide) | exact vp_in_nI (by omega) (by decide) | decide | omega) (by exact canWin_low hy0)) hK hP hD hE hS (hB0 0 _ rfl) rfl rfl rfl hl.1 (Nat.le_of_ble_eq_true rfl) rfl rfl ⟨(Nat.le_of_ble_eq_true rfl), (Nat.le_of_ble_eq_true rfl)⟩ ⟨(Nat.le_of_ble_eq_true rfl), (Nat.le_of_ble_eq_true rfl)⟩ dX12_canWin_70) hS rfl (fun locs hS => ?_)
            refine lv_iload_n S.1 S.2.1 dX12_canWin_73 rfl (lv_at hl 3 rfl) ?_
            refine lv_icmp_ne (tgt := 81) S.1 S.2.1 dX12_canWin_74 (by decide) (fun (c5 : ¬ (f_X12_resultOf mPpl mW (f_X12_needNow mPpl mBts mNum mW) 0 (L_X12_canWin_30 mW mPpl.toNatClampNeg) b) = b) => ?_) (fun (c5 : (f_X12_resultOf mPpl mW (f_X12_needNow mPpl mBts mNum mW) 0 (L_X12_canWin_30 mW mPpl.toNatClampNeg) b) = b) => ?_)
            · refine lv_iconst (v := 0) S.1 S.2.1 dX12_canWin_81 (by decide) ?_
              have hf : (f_X12_canWin mPpl mBts mNum mW b) = false := (cd_t c1).trans ((cd_t c2).trans ((if_pos c3).trans (if_neg c5)))
              exact g_zretR S hr hlk hS rfl (by rw [hf] <;> rfl) dX12_canWin_82
            · refine lv_iconst (v := 1) S.1 S.2.1 dX12_canWin_77 (by decide) ?_
              refine lv_goto (tgt := 82) S.1 S.2.1 dX12_canWin_78 (by decide) ?_
              have hf : (f_X12_canWin mPpl mBts mNum mW b) = true := (cd_t c1).trans ((cd_t c2).trans ((if_pos c3).trans (if_pos c5)))
              exact g_zretR S hr hlk hS rfl (by rw [hf] <;> rfl) dX12_canWin_82
          | succ j ih =>
            intro n hn locs ls hS hl
            refine lv_iload_n S.1 S.2.1 dX12_canWin_30 rfl (lv_at hl 0 rfl) ?_
            refine lv_aload_n S.1 S.2.1 dX12_canWin_31 rfl (lv_at hl 2 rfl) ?_
            refine g_get (v := .int mPpl) S hK hP (hB0 0 _ rfl) rfl inX12 4 (by decide) qw1378 rfl dX12_canWin_32 ?_
            refine lv_icmp_ge (tgt := 62) S.1 S.2.1 dX12_canWin_35 (by decide) (fun (c6 : mPpl ≤ (nI n)) => absurd c6 (lp_in (s := 0) (rfl) hn)) (fun (c6 : ¬ mPpl ≤ (nI n)) => ?_)
            refine lv_iload_n S.1 S.2.1 dX12_canWin_38 rfl (lv_at hl 1 rfl) ?_
            refine lv_aload_n S.1 S.2.1 dX12_canWin_39 rfl (lv_at hl 2 rfl) ?_
            refine lv_iload_n S.1 S.2.1 dX12_canWin_40 rfl (lv_at hl 0 rfl) ?_
            refine g_aftR0 (st1 := [.int (b2i (f_X12_couldBeLaid mW (nI n))), .int (L_X12_canWin_30 mW n)]) (g_V (As := [.int (nI n)]) (rest := [.int (L_X12_canWin_30 mW n)]) S mi_X12_couldBeLaid qw1844 (c_X12_couldBeLaid l D A w α (k) mTaped mErr mPpl mBts mUs mRa mSt mKi mWd mVal mLet mFin mNp mNb mOuts mWant mFnd mTape mNum mNam mFst mBnm mW mUn mSl mKp mnNum mnNam mnBo mnBn (nI n) hB0 (by first | assumption | exact vin_d (by decide) | exact vp_in_nI (by omega) (by decide) | decide | omega) (by first | assumption | exact vin_d (by decide) | exact vp_in_nI (by omega) (by decide) | decide | omega)) hK hP hD hE hS (hB0 0 _ rfl) rfl rfl rfl hl.1 (Nat.le_of_ble_eq_true rfl) rfl rfl ⟨(Nat.le_of_ble_eq_true rfl), (Nat.le_of_ble_eq_true rfl)⟩ ⟨(Nat.le_of_ble_eq_true rfl), (Nat.le_of_ble_eq_true rfl)⟩ dX12_canWin_41) hS rfl (fun locs hS => ?_)
            refine g_bifeq (b := (f_X12_couldBeLaid mW (nI n))) (tgt := 53) S dX12_canWin_44 (by decide) (fun (c7 : (f_X12_couldBeLaid mW (nI n)) = false) => ?_) (fun (c7 : (f_X12_couldBeLaid mW (nI n)) = true) => ?_)
            · refine lv_iconst (v := 0) S.1 S.2.1 dX12_canWin_53 (by decide) ?_
              refine lv_ior S.1 S.2.1 dX12_canWin_54 ?_
              refine lv_istore_n (lv' := [(2, .int ((L_X12_canWin_30 mW n) ||| 0)), (3, .int (nI n)), (0, .ref (α (k))), (1, .int b)]) S.1 S.2.1 dX12_canWin_55 rfl hl (by decide) rfl (fun ls hl => ?_)
              refine lv_iinc (v := (nI (n + 1))) (lv' := [(3, .int (nI (n + 1))), (2, .int ((L_X12_canWin_30 mW n) ||| 0)), (0, .ref (α (k))), (1, .int b)]) S.1 S.2.1 dX12_canWin_56 hl (k := 1) rfl ((nI_succ n).symm) (by decide) rfl (fun ls hl => ?_)
              refine lv_goto (tgt := 30) S.1 S.2.1 dX12_canWin_59 (by decide) ?_
              have hL : (L_X12_canWin_30 mW (n + 1)) = ((L_X12_canWin_30 mW n) ||| 0) := (iter_s _ _ _).trans (cd_f c7)
              refine ih (n + 1) (by omega) _ _ hS ?_
              rw [hL]; exact lv_sub hl [0, 1, 2, 3] rfl
            · refine lv_iconst (v := 1) S.1 S.2.1 dX12_canWin_47 (by decide) ?_
              refine lv_iload_n S.1 S.2.1 dX12_canWin_48 rfl (lv_at hl 0 rfl) ?_
              refine lv_ishl S.1 S.2.1 dX12_canWin_49 ?_
              refine lv_goto (tgt := 54) S.1 S.2.1 dX12_canWin_50 (by decide) ?_
              refine lv_ior S.1 S.2.1 dX12_canWin_54 ?_
              refine lv_istore_n (lv' := [(2, .int ((L_X12_canWin_30 mW n) ||| ((1 : Int32) <<< ((nI n) &&& 31)))), (3, .int (nI n)), (0, .ref (α (k))), (1, .int b)]) S.1 S.2.1 dX12_canWin_55 rfl hl (by decide) rfl (fun ls hl => ?_)
              refine lv_iinc (v := (nI (n + 1))) (lv' := [(3, .int (nI (n + 1))), (2, .int ((L_X12_canWin_30 mW n) ||| ((1 : Int32) <<< ((nI n) &&& 31)))), (0, .ref (α (k))), (1, .int b)]) S.1 S.2.1 dX12_canWin_56 hl (k := 1) rfl ((nI_succ n).symm) (by decide) rfl (fun ls hl => ?_)
              refine lv_goto (tgt := 30) S.1 S.2.1 dX12_canWin_59 (by decide) ?_
              have hL : (L_X12_canWin_30 mW (n + 1)) = ((L_X12_canWin_30 mW n) ||| ((1 : Int32) <<< ((nI n) &&& 31))) := (iter_s _ _ _).trans (cd_t c7)
              refine ih (n + 1) (by omega) _ _ hS ?_
              rw [hL]; exact lv_sub hl [0, 1, 2, 3] rfl
        have hL0 : (L_X12_canWin_30 mW 0) = 0 := iter_z _ _
        exact lp30 mPpl.toNatClampNeg 0 (Nat.zero_add _) _ _ hS (by rw [hL0]; exact lv_sub hl [0, 1, 2, 3] rfl)
      · refine lv_iconst (v := 0) S.1 S.2.1 dX12_canWin_24 (by decide) ?_
        have hf : (f_X12_canWin mPpl mBts mNum mW b) = false := (cd_t c1).trans ((cd_t c2).trans (if_neg c3))
        exact g_zretR S hr hlk hS rfl (by rw [hf] <;> rfl) dX12_canWin_25
def L_X12_decisive_27 (mPpl : Int32) (mBts : Int32) (mNum : Nat → Int32) (mW : Nat → Int32) : Nat → Int32 := iter_ (fun n sn => (if (((f_X12_allLaid mPpl mW) >>> ((nI n) &&& 31)) &&& 1) = 1 then (if (f_X12_resultOf mPpl mW (f_X12_needNow mPpl mBts mNum mW) ((1 : Int32) <<< ((nI n) &&& 31)) 0 (-2)) = (f_X12_resultNow mPpl mBts mNum mW) then (sn + 0) else (sn + 1)) else (sn + 0))) 0
def f_X12_decisive (mPpl : Int32) (mBts : Int32) (mNum : Nat → Int32) (mW : Nat → Int32) : Int32 := (if (mW 1) = 0 then (-5) else (L_X12_decisive_27 mPpl mBts mNum mW mPpl.toNatClampNeg))
set_option maxHeartbeats 4000000 in
set_option maxRecDepth 100000 in
theorem c_X12_decisive (l : Launch) (D : va_G) (A : Nat → Prop) (w : va_W) (α : Nat → Nat) (k : Nat) (mTaped : Int32) (mErr : Int32) (mPpl : Int32) (mBts : Int32) (mUs : Int32) (mRa : Int32) (mSt : Int32) (mKi : Int32) (mWd : Int64) (mVal : Int32) (mLet : Int32) (mFin : Int32) (mNp : Int32) (mNb : Int32) (mOuts : Int32) (mWant : Int32) (mFnd : Int32) (mTape : Nat → Int32) (mNum : Nat → Int32) (mNam : Nat → Int32) (mFst : Nat → Int32) (mBnm : Nat → Int32) (mW : Nat → Int32) (mUn : Nat → Int32) (mSl : Nat → Int32) (mKp : Nat → Int32) (mnNum : Nat → Int32) (mnNam : Nat → Int32) (mnBo : Nat → Int32) (mnBn : Nat → Int32) (hB0 : Blk w k (cM D α k mTaped mErr mPpl mBts mUs mRa mSt mKi mWd mVal mLet mFin mNp mNb mOuts mWant mFnd mTape mNum mNam mFst mBnm mW mUn mSl mKp mnNum mnNam mnBo mnBn)) (hy0 : vp_in mPpl 21) (hy1 : 0 ≤ mW 0) (hy2 : 0 < mNum 0) (hy3 : vp_in mBts 7) : Met l yX12_decisive (ws_ yX12_decisive cX12_decisive 5 (some .int)) ({ frames := 6, cells := 0, slots := 0, locals := 128 }) (gPre D A [.ref (α (k))] w) (gR (some (.int (f_X12_decisive mPpl mBts mNum mW)))) 0 0 A := by
  refine g_met [(0, .ref (α (k)))] (plainFor_of_name (by decide)) (Nat.le_of_ble_eq_true rfl) rfl (fun pg en s mi ar below me co ls S hK hP hD hE hS hr hlk hnm hl => ?_)
  have hpn := vin_lt (show vp_in mPpl 21 by assumption)
  refine lv_aload_n S.1 S.2.1 dX12_decisive_0 rfl (lv_at hl 0 rfl) ?_
  refine g_get (v := .ref (α (k + 6))) S hK hP (hB0 0 _ rfl) rfl inX12 9 (by decide) qw1383 rfl dX12_decisive_1 ?_
  refine lv_iconst (v := 1) S.1 S.2.1 dX12_decisive_4 (by decide) ?_
  refine g_iald S hK hP (hB0 6 _ rfl) (by first | assumption | exact vin_d (by decide) | exact vp_in_nI (by omega) (by decide) | decide) dX12_decisive_5 ?_
  refine lv_if_ne (tgt := 12) S.1 S.2.1 dX12_decisive_6 (by decide) (fun (c1 : ¬ (mW 1) = 0) => ?_) (fun (c1 : (mW 1) = 0) => ?_)
  · refine lv_aload_n S.1 S.2.1 dX12_decisive_12 rfl (lv_at hl 0 rfl) ?_
    refine g_aftR0 (st1 := [.int (f_X12_resultNow mPpl mBts mNum mW)]) (g_V (As := []) (rest := []) S mi_X12_resultNow qw1688 (c_X12_resultNow l D A w α (k) mTaped mErr mPpl mBts mUs mRa mSt mKi mWd mVal mLet mFin mNp mNb mOuts mWant mFnd mTape mNum mNam mFst mBnm mW mUn mSl mKp mnNum mnNam mnBo mnBn hB0 (by first | assumption | exact vin_d (by decide) | exact vp_in_nI (by omega) (by decide) | decide | omega) (by first | assumption | exact vin_d (by decide) | exact vp_in_nI (by omega) (by decide) | decide | omega) (by first | assumption | exact vin_d (by decide) | exact vp_in_nI (by omega) (by decide) | decide | omega) (by first | assumption | exact vin_d (by decide) | exact vp_in_nI (by omega) (by decide) | decide | omega)) hK hP hD hE hS (hB0 0 _ rfl) rfl rfl rfl hl.1 (Nat.le_of_ble_eq_true rfl) rfl rfl ⟨(Nat.le_of_ble_eq_true rfl), (Nat.le_of_ble_eq_true rfl)⟩ ⟨(Nat.le_of_ble_eq_true rfl), (Nat.le_of_ble_eq_true rfl)⟩ dX12_decisive_13) hS rfl (fun locs hS => ?_)
    refine lv_istore_n (lv' := [(1, .int (f_X12_resultNow mPpl mBts mNum mW)), (0, .ref (α (k)))]) S.1 S.2.1 dX12_decisive_16 rfl hl (by decide) rfl (fun ls hl => ?_)
    refine lv_aload_n S.1 S.2.1 dX12_decisive_17 rfl (lv_at hl 1 rfl) ?_
    refine g_aftR0 (st1 := [.int (f_X12_allLaid mPpl mW)]) (g_V (As := []) (rest := []) S mi_X12_allLaid qw1720 (c_X12_allLaid l D A w α (k) mTaped mErr mPpl mBts mUs mRa mSt mKi mWd mVal mLet mFin mNp mNb mOuts mWant mFnd mTape mNum mNam mFst mBnm mW mUn mSl mKp mnNum mnNam mnBo mnBn hB0 (by first | assumption | exact vin_d (by decide) | exact vp_in_nI (by omega) (by decide) | decide | omega)) hK hP hD hE hS (hB0 0 _ rfl) rfl rfl rfl hl.1 (Nat.le_of_ble_eq_true rfl) rfl rfl ⟨(Nat.le_of_ble_eq_true rfl), (Nat.le_of_ble_eq_true rfl)⟩ ⟨(Nat.le_of_ble_eq_true rfl), (Nat.le_of_ble_eq_true rfl)⟩ dX12_decisive_18) hS rfl (fun locs hS => ?_)
    refine lv_istore_n (lv' := [(2, .int (f_X12_allLaid mPpl mW)), (1, .int (f_X12_resultNow mPpl mBts mNum mW)), (0, .ref (α (k)))]) S.1 S.2.1 dX12_decisive_21 rfl hl (by decide) rfl (fun ls hl => ?_)
    refine lv_iconst (v := 0) S.1 S.2.1 dX12_decisive_22 (by decide) ?_
    refine lv_istore_n (lv' := [(3, .int 0), (2, .int (f_X12_allLaid mPpl mW)), (1, .int (f_X12_resultNow mPpl mBts mNum mW)), (0, .ref (α (k)))]) S.1 S.2.1 dX12_decisive_23 rfl hl (by decide) rfl (fun ls hl => ?_)
    refine lv_iconst (v := 0) S.1 S.2.1 dX12_decisive_24 (by decide) ?_
    refine lv_istore (lv' := [(4, .int 0), (3, .int 0), (2, .int (f_X12_allLaid mPpl mW)), (1, .int (f_X12_resultNow mPpl mBts mNum mW)), (0, .ref (α (k)))]) S.1 S.2.1 dX12_decisive_25 hl (by decide) rfl (fun ls hl => ?_)
    have lp27 : ∀ (j n : Nat), n + j = mPpl.toNatClampNeg → ∀ (locs : List Loc) (ls : Array Slot), va_S A s.heap s.heap locs → lv_has ls 5 [(4, .int (nI n)), (3, .int (L_X12_decisive_27 mPpl mBts mNum mW n)), (2, .int (f_X12_allLaid mPpl mW)), (1, .int (f_X12_resultNow mPpl mBts mNum mW)), (0, .ref (α (k)))] → W pg l en ({ frames := 6, cells := 0, slots := 0, locals := 128 } : Room) s mi ar below me co s.heap locs 0 0 (MQ below (gR (some (.int (f_X12_decisive mPpl mBts mNum mW)))) ar s 0 0 A) (F0 mi 27 ls []) := by
      intro j
      induction j with
      | zero =>
        intro n hn locs ls hS hl
        have hn : mPpl.toNatClampNeg = n := hn.symm
        subst hn
        refine lv_iload S.1 S.2.1 dX12_decisive_27 (lv_at hl 0 rfl) ?_
        refine lv_aload_n S.1 S.2.1 dX12_decisive_29 rfl (lv_at hl 4 rfl) ?_
        refine g_get (v := .int mPpl) S hK hP (hB0 0 _ rfl) rfl inX12 4 (by decide) qw1378 rfl dX12_decisive_30 ?_
        refine lv_icmp_ge (tgt := 79) S.1 S.2.1 dX12_decisive_33 (by decide) (fun (c2 : mPpl ≤ (nI mPpl.toNatClampNeg)) => ?_) (fun (c2 : ¬ mPpl ≤ (nI mPpl.toNatClampNeg)) => absurd c2 (lp_out (s := 0) ((Nat.max_eq_left (Nat.zero_le _)).symm)))
        refine lv_iload_n S.1 S.2.1 dX12_decisive_79 rfl (lv_at hl 1 rfl) ?_
        have hf : (f_X12_decisive mPpl mBts mNum mW) = (L_X12_decisive_27 mPpl mBts mNum mW mPpl.toNatClampNeg) := if_neg c1
        exact g_iretR S hr hlk hS (by rw [hf] <;> rfl) dX12_decisive_80
      | succ j ih =>
        intro n hn locs ls hS hl
        refine lv_iload S.1 S.2.1 dX12_decisive_27 (lv_at hl 0 rfl) ?_
        refine lv_aload_n S.1 S.2.1 dX12_decisive_29 rfl (lv_at hl 4 rfl) ?_
        refine g_get (v := .int mPpl) S hK hP (hB0 0 _ rfl) rfl inX12 4 (by decide) qw1378 rfl dX12_decisive_30 ?_
        refine lv_icmp_ge (tgt := 79) S.1 S.2.1 dX12_decisive_33 (by decide) (fun (c3 : mPpl ≤ (nI n)) => absurd c3 (lp_in (s := 0) (rfl) hn)) (fun (c3 : ¬ mPpl ≤ (nI n)) => ?_)
        refine lv_iload_n S.1 S.2.1 dX12_decisive_36 rfl (lv_at hl 1 rfl) ?_
        refine lv_iload_n S.1 S.2.1 dX12_decisive_37 rfl (lv_at hl 2 rfl) ?_
        refine lv_iload S.1 S.2.1 dX12_decisive_38 (lv_at hl 0 rfl) ?_
        refine lv_ishr S.1 S.2.1 dX12_decisive_40 ?_
        refine lv_iconst (v := 1) S.1 S.2.1 dX12_decisive_41 (by decide) ?_
        refine lv_iand S.1 S.2.1 dX12_decisive_42 ?_
        refine lv_iconst (v := 1) S.1 S.2.1 dX12_decisive_43 (by decide) ?_
        refine lv_icmp_ne (tgt := 70) S.1 S.2.1 dX12_decisive_44 (by decide) (fun (c4 : ¬ (((f_X12_allLaid mPpl mW) >>> ((nI n) &&& 31)) &&& 1) = 1) => ?_) (fun (c4 : (((f_X12_allLaid mPpl mW) >>> ((nI n) &&& 31)) &&& 1) = 1) => ?_)
        · refine lv_iconst (v := 0) S.1 S.2.1 dX12_decisive_70 (by decide) ?_
          refine lv_iadd S.1 S.2.1 dX12_decisive_71 ?_
          refine lv_istore_n (lv' := [(3, .int ((L_X12_decisive_27 mPpl mBts mNum mW n) + 0)), (4, .int (nI n)), (2, .int (f_X12_allLaid mPpl mW)), (1, .int (f_X12_resultNow mPpl mBts mNum mW)), (0, .ref (α (k)))]) S.1 S.2.1 dX12_decisive_72 rfl hl (by decide) rfl (fun ls hl => ?_)
          refine lv_iinc (v := (nI (n + 1))) (lv' := [(4, .int (nI (n + 1))), (3, .int ((L_X12_decisive_27 mPpl mBts mNum mW n) + 0)), (2, .int (f_X12_allLaid mPpl mW)), (1, .int (f_X12_resultNow mPpl mBts mNum mW)), (0, .ref (α (k)))]) S.1 S.2.1 dX12_decisive_73 hl (k := 1) rfl ((nI_succ n).symm) (by decide) rfl (fun ls hl => ?_)
          refine lv_goto (tgt := 27) S.1 S.2.1 dX12_decisive_76 (by decide) ?_
          have hL : (L_X12_decisive_27 mPpl mBts mNum mW (n + 1)) = ((L_X12_decisive_27 mPpl mBts mNum mW n) + 0) := (iter_s _ _ _).trans (if_neg c4)
          refine ih (n + 1) (by omega) _ _ hS ?_
          rw [hL]; exact lv_sub hl [0, 1, 2, 3, 4] rfl
        · refine lv_aload_n S.1 S.2.1 dX12_decisive_47 rfl (lv_at hl 4 rfl) ?_
          refine lv_aload_n S.1 S.2.1 dX12_decisive_48 rfl (lv_at hl 4 rfl) ?_
          refine g_aftR0 (st1 := [.int (f_X12_needNow mPpl mBts mNum mW), .ref (α (k)), .int (L_X12_decisive_27 mPpl mBts mNum mW n)]) (g_V (As := []) (rest := [.ref (α (k)), .int (L_X12_decisive_27 mPpl mBts mNum mW n)]) S mi_X12_needNow qw1692 (c_X12_needNow l D A w α (k) mTaped mErr mPpl mBts mUs mRa mSt mKi mWd mVal mLet mFin mNp mNb mOuts mWant mFnd mTape mNum mNam mFst mBnm mW mUn mSl mKp mnNum mnNam mnBo mnBn hB0 (by first | assumption | exact vin_d (by decide) | exact vp_in_nI (by omega) (by decide) | decide | omega) (by first | assumption | exact vin_d (by decide) | exact vp_in_nI (by omega) (by decide) | decide | omega) (by first | assumption | exact vin_d (by decide) | exact vp_in_nI (by omega) (by decide) | decide | omega)) hK hP hD hE hS (hB0 0 _ rfl) rfl rfl rfl hl.1 (Nat.le_of_ble_eq_true rfl) rfl rfl ⟨(Nat.le_of_ble_eq_true rfl), (Nat.le_of_ble_eq_true rfl)⟩ ⟨(Nat.le_of_ble_eq_true rfl), (Nat.le_of_ble_eq_true rfl)⟩ dX12_decisive_49) hS rfl (fun locs hS => ?_)
          refine lv_iconst (v := 1) S.1 S.2.1 dX12_decisive_52 (by decide) ?_
          refine lv_iload S.1 S.2.1 dX12_decisive_53 (lv_at hl 0 rfl) ?_
          refine lv_ishl S.1 S.2.1 dX12_decisive_55 ?_
          refine lv_iconst (v := 0) S.1 S.2.1 dX12_decisive_56 (by decide) ?_
          refine lv_bipush (v := (-2)) S.1 S.2.1 dX12_decisive_57 (by decide) ?_
          refine g_aftR0 (st1 := [.int (f_X12_resultOf mPpl mW (f_X12_needNow mPpl mBts mNum mW) ((1 : Int32) <<< ((nI n) &&& 31)) 0 (-2)), .int (L_X12_decisive_27 mPpl mBts mNum mW n)]) (g_V (As := [.int (f_X12_needNow mPpl mBts mNum mW), .int ((1 : Int32) <<< ((nI n) &&& 31)), .int 0, .int (-2)]) (rest := [.int (L_X12_decisive_27 mPpl mBts mNum mW n)]) S mi_X12_resultOf qw1708 (c_X12_resultOf l D A w α (k) mTaped mErr mPpl mBts mUs mRa mSt mKi mWd mVal mLet mFin mNp mNb mOuts mWant mFnd mTape mNum mNam mFst mBnm mW mUn mSl mKp mnNum mnNam mnBo mnBn (f_X12_needNow mPpl mBts mNum mW) ((1 : Int32) <<< ((nI n) &&& 31)) 0 (-2) hB0 (by first | assumption | exact vin_d (by decide) | exact vp_in_nI (by omega) (by decide) | decide | omega) (by exact low20_0)) hK hP hD hE hS (hB0 0 _ rfl) rfl rfl rfl hl.1 (Nat.le_of_ble_eq_true rfl) rfl rfl ⟨(Nat.le_of_ble_eq_true rfl), (Nat.le_of_ble_eq_true rfl)⟩ ⟨(Nat.le_of_ble_eq_true rfl), (Nat.le_of_ble_eq_true rfl)⟩ dX12_decisive_59) hS rfl (fun locs hS => ?_)
          refine lv_iload_n S.1 S.2.1 dX12_decisive_62 rfl (lv_at hl 3 rfl) ?_
          refine lv_icmp_eq (tgt := 70) S.1 S.2.1 dX12_decisive_63 (by decide) (fun (c5 : (f_X12_resultOf mPpl mW (f_X12_needNow mPpl mBts mNum mW) ((1 : Int32) <<< ((nI n) &&& 31)) 0 (-2)) = (f_X12_resultNow mPpl mBts mNum mW)) => ?_) (fun (c5 : ¬ (f_X12_resultOf mPpl mW (f_X12_needNow mPpl mBts mNum mW) ((1 : Int32) <<< ((nI n) &&& 31)) 0 (-2)) = (f_X12_resultNow mPpl mBts mNum mW)) => ?_)
          · refine lv_iconst (v := 0) S.1 S.2.1 dX12_decisive_70 (by decide) ?_
            refine lv_iadd S.1 S.2.1 dX12_decisive_71 ?_
            refine lv_istore_n (lv' := [(3, .int ((L_X12_decisive_27 mPpl mBts mNum mW n) + 0)), (4, .int (nI n)), (2, .int (f_X12_allLaid mPpl mW)), (1, .int (f_X12_resultNow mPpl mBts mNum mW)), (0, .ref (α (k)))]) S.1 S.2.1 dX12_decisive_72 rfl hl (by decide) rfl (fun ls hl => ?_)
            refine lv_iinc (v := (nI (n + 1))) (lv' := [(4, .int (nI (n + 1))), (3, .int ((L_X12_decisive_27 mPpl mBts mNum mW n) + 0)), (2, .int (f_X12_allLaid mPpl mW)), (1, .int (f_X12_resultNow mPpl mBts mNum mW)), (0, .ref (α (k)))]) S.1 S.2.1 dX12_decisive_73 hl (k := 1) rfl ((nI_succ n).symm) (by decide) rfl (fun ls hl => ?_)
            refine lv_goto (tgt := 27) S.1 S.2.1 dX12_decisive_76 (by decide) ?_
            have hL : (L_X12_decisive_27 mPpl mBts mNum mW (n + 1)) = ((L_X12_decisive_27 mPpl mBts mNum mW n) + 0) := (iter_s _ _ _).trans ((if_pos c4).trans (if_pos c5))
            refine ih (n + 1) (by omega) _ _ hS ?_
            rw [hL]; exact lv_sub hl [0, 1, 2, 3, 4] rfl
          · refine lv_iconst (v := 1) S.1 S.2.1 dX12_decisive_66 (by decide) ?_
            refine lv_goto (tgt := 71) S.1 S.2.1 dX12_decisive_67 (by decide) ?_
            refine lv_iadd S.1 S.2.1 dX12_decisive_71 ?_
            refine lv_istore_n (lv' := [(3, .int ((L_X12_decisive_27 mPpl mBts mNum mW n) + 1)), (4, .int (nI n)), (2, .int (f_X12_allLaid mPpl mW)), (1, .int (f_X12_resultNow mPpl mBts mNum mW)), (0, .ref (α (k)))]) S.1 S.2.1 dX12_decisive_72 rfl hl (by decide) rfl (fun ls hl => ?_)
            refine lv_iinc (v := (nI (n + 1))) (lv' := [(4, .int (nI (n + 1))), (3, .int ((L_X12_decisive_27 mPpl mBts mNum mW n) + 1)), (2, .int (f_X12_allLaid mPpl mW)), (1, .int (f_X12_resultNow mPpl mBts mNum mW)), (0, .ref (α (k)))]) S.1 S.2.1 dX12_decisive_73 hl (k := 1) rfl ((nI_succ n).symm) (by decide) rfl (fun ls hl => ?_)
            refine lv_goto (tgt := 27) S.1 S.2.1 dX12_decisive_76 (by decide) ?_
            have hL : (L_X12_decisive_27 mPpl mBts mNum mW (n + 1)) = ((L_X12_decisive_27 mPpl mBts mNum mW n) + 1) := (iter_s _ _ _).trans ((if_pos c4).trans (if_neg c5))
            refine ih (n + 1) (by omega) _ _ hS ?_
            rw [hL]; exact lv_sub hl [0, 1, 2, 3, 4] rfl
    have hL0 : (L_X12_decisive_27 mPpl mBts mNum mW 0) = 0 := iter_z _ _
    exact lp27 mPpl.toNatClampNeg 0 (Nat.zero_add _) _ _ hS (by rw [hL0]; exact lv_sub hl [0, 1, 2, 3, 4] rfl)
  · refine lv_bipush (v := (-5)) S.1 S.2.1 dX12_decisive_9 (by decide) ?_
    have hf : (f_X12_decisive mPpl mBts mNum mW) = (-5) := if_pos c1
    exact g_iretR S hr hlk hS (by rw [hf] <;> rfl) dX12_decisive_11
