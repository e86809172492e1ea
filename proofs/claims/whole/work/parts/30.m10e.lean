def E_X12_named_2 (mKi : Int32) (mLet : Int32) (af : Nat → Int32) (n : Nat) : Option (Int32) := (if mKi = 1 then (if (af (nI n).toNatClampNeg) = mLet then some (nI n) else none) else none)
def f_X12_named (mKi : Int32) (mLet : Int32) (af : Nat → Int32) (b : Int32) : Int32 := ((fst_ (fun k => (E_X12_named_2 mKi mLet af k)) b.toNatClampNeg).getD (-2))
set_option maxHeartbeats 4000000 in
set_option maxRecDepth 100000 in
theorem c_X12_named (l : Launch) (D : va_G) (A : Nat → Prop) (w : va_W) (α : Nat → Nat) (k : Nat) (mTaped : Int32) (mErr : Int32) (mPpl : Int32) (mBts : Int32) (mUs : Int32) (mRa : Int32) (mSt : Int32) (mKi : Int32) (mWd : Int64) (mVal : Int32) (mLet : Int32) (mFin : Int32) (mNp : Int32) (mNb : Int32) (mOuts : Int32) (mWant : Int32) (mFnd : Int32) (mTape : Nat → Int32) (mNum : Nat → Int32) (mNam : Nat → Int32) (mFst : Nat → Int32) (mBnm : Nat → Int32) (mW : Nat → Int32) (mUn : Nat → Int32) (mSl : Nat → Int32) (mKp : Nat → Int32) (mnNum : Nat → Int32) (mnNam : Nat → Int32) (mnBo : Nat → Int32) (mnBn : Nat → Int32) (a : Nat) (an : Nat) (af : Nat → Int32) (b : Int32) (hB0 : Blk w k (cM D α k mTaped mErr mPpl mBts mUs mRa mSt mKi mWd mVal mLet mFin mNp mNb mOuts mWant mFnd mTape mNum mNam mFst mBnm mW mUn mSl mKp mnNum mnNam mnBo mnBn)) (hB1 : w[a]? = some (cI D α a an af)) (hy0 : vp_in b 21) (hy1 : b.toNatClampNeg ≤ an) (hy2 : an < 2147483648) : Met l yX12_named (ws_ yX12_named cX12_named 4 (some .int)) ({ frames := 0, cells := 0, slots := 0, locals := 0 }) (gPre D A [.ref (α (k)), .ref (α (a)), .int b] w) (gR (some (.int (f_X12_named mKi mLet af b)))) 0 0 A := by
  refine g_met [(0, .ref (α (k))), (1, .ref (α (a))), (2, .int b)] (plainFor_of_name (by decide)) (Nat.le_of_ble_eq_true rfl) rfl (fun pg en s mi ar below me co ls S hK hP hD hE hS hr hlk hnm hl => ?_)
  refine lv_iconst (v := 0) S.1 S.2.1 dX12_named_0 (by decide) ?_
  refine lv_istore_n (lv' := [(3, .int 0), (0, .ref (α (k))), (1, .ref (α (a))), (2, .int b)]) S.1 S.2.1 dX12_named_1 rfl hl (by decide) rfl (fun ls hl => ?_)
  have lp2 : ∀ (j n : Nat), n + j = b.toNatClampNeg → fst_ (fun k => (E_X12_named_2 mKi mLet af k)) n = none → ∀ (locs : List Loc) (ls : Array Slot), va_S A s.heap s.heap locs → lv_has ls 4 [(3, .int (nI n)), (0, .ref (α (k))), (1, .ref (α (a))), (2, .int b)] → W pg l en ({ frames := 0, cells := 0, slots := 0, locals := 0 } : Room) s mi ar below me co s.heap locs 0 0 (MQ below (gR (some (.int (f_X12_named mKi mLet af b)))) ar s 0 0 A) (F0 mi 2 ls []) := by
    intro j
    induction j with
    | zero =>
      intro n hn he locs ls hS hl
      have hn : b.toNatClampNeg = n := hn.symm
      subst hn
      refine lv_iload_n S.1 S.2.1 dX12_named_2 rfl (lv_at hl 0 rfl) ?_
      refine lv_iload_n S.1 S.2.1 dX12_named_3 rfl (lv_at hl 3 rfl) ?_
      refine lv_icmp_ge (tgt := 33) S.1 S.2.1 dX12_named_4 (by decide) (fun (c1 : b ≤ (nI b.toNatClampNeg)) => ?_) (fun (c1 : ¬ b ≤ (nI b.toNatClampNeg)) => absurd c1 (lp_out (s := 0) ((Nat.max_eq_left (Nat.zero_le _)).symm)))
      refine lv_bipush (v := (-2)) S.1 S.2.1 dX12_named_33 (by decide) ?_
      have hf : (f_X12_named mKi mLet af b) = (-2) := gd_n he
      exact g_iretR S hr hlk hS (by rw [hf] <;> rfl) dX12_named_35
    | succ j ih =>
      intro n hn he locs ls hS hl
      refine lv_iload_n S.1 S.2.1 dX12_named_2 rfl (lv_at hl 0 rfl) ?_
      refine lv_iload_n S.1 S.2.1 dX12_named_3 rfl (lv_at hl 3 rfl) ?_
      refine lv_icmp_ge (tgt := 33) S.1 S.2.1 dX12_named_4 (by decide) (fun (c2 : b ≤ (nI n)) => absurd c2 (lp_in (s := 0) (rfl) hn)) (fun (c2 : ¬ b ≤ (nI n)) => ?_)
      refine lv_aload_n S.1 S.2.1 dX12_named_7 rfl (lv_at hl 1 rfl) ?_
      refine g_get (v := .int mKi) S hK hP (hB0 0 _ rfl) rfl inX12 16 (by decide) qw1390 rfl dX12_named_8 ?_
      refine lv_iconst (v := 1) S.1 S.2.1 dX12_named_11 (by decide) ?_
      refine lv_icmp_ne (tgt := 27) S.1 S.2.1 dX12_named_12 (by decide) (fun (c3 : ¬ mKi = 1) => ?_) (fun (c3 : mKi = 1) => ?_)
      · refine lv_iinc (v := (nI (n + 1))) (lv' := [(3, .int (nI (n + 1))), (0, .ref (α (k))), (1, .ref (α (a))), (2, .int b)]) S.1 S.2.1 dX12_named_27 hl (k := 0) rfl ((nI_succ n).symm) (by decide) rfl (fun ls hl => ?_)
        refine lv_goto (tgt := 2) S.1 S.2.1 dX12_named_30 (by decide) ?_
        have hE : (E_X12_named_2 mKi mLet af n) = none := if_neg c3
        refine ih (n + 1) (by omega) (fst_n he hE) _ _ hS ?_
        exact lv_sub hl [0, 1, 2, 3] rfl
      · refine lv_aload_n S.1 S.2.1 dX12_named_15 rfl (lv_at hl 2 rfl) ?_
        refine lv_iload_n S.1 S.2.1 dX12_named_16 rfl (lv_at hl 0 rfl) ?_
        refine g_iald S hK hP hB1 (vp_in_nI (by omega) hy2) dX12_named_17 ?_
        refine lv_aload_n S.1 S.2.1 dX12_named_18 rfl (lv_at hl 1 rfl) ?_
        refine g_get (v := .int mLet) S hK hP (hB0 0 _ rfl) rfl inX12 19 (by decide) qw1393 rfl dX12_named_19 ?_
        refine lv_icmp_ne (tgt := 27) S.1 S.2.1 dX12_named_22 (by decide) (fun (c4 : ¬ (af (nI n).toNatClampNeg) = mLet) => ?_) (fun (c4 : (af (nI n).toNatClampNeg) = mLet) => ?_)
        · refine lv_iinc (v := (nI (n + 1))) (lv' := [(3, .int (nI (n + 1))), (0, .ref (α (k))), (1, .ref (α (a))), (2, .int b)]) S.1 S.2.1 dX12_named_27 hl (k := 0) rfl ((nI_succ n).symm) (by decide) rfl (fun ls hl => ?_)
          refine lv_goto (tgt := 2) S.1 S.2.1 dX12_named_30 (by decide) ?_
          have hE : (E_X12_named_2 mKi mLet af n) = none := (if_pos c3).trans (if_neg c4)
          refine ih (n + 1) (by omega) (fst_n he hE) _ _ hS ?_
          exact lv_sub hl [0, 1, 2, 3] rfl
        · refine lv_iload_n S.1 S.2.1 dX12_named_25 rfl (lv_at hl 0 rfl) ?_
          have hE1 : (E_X12_named_2 mKi mLet af n) = some (nI n) := (if_pos c3).trans (if_pos c4)
          have hE2 : fst_ (fun k => (E_X12_named_2 mKi mLet af k)) b.toNatClampNeg = some (nI n) := fst_s he hE1 (by omega)
          have hf : (f_X12_named mKi mLet af b) = (nI n) := gd_s hE2
          exact g_iretR S hr hlk hS (by rw [hf] <;> rfl) dX12_named_26
  exact lp2 b.toNatClampNeg 0 (Nat.zero_add _) rfl _ _ hS (lv_sub hl [0, 1, 2, 3] rfl)
