def E_X12_named_T_11 (mBnm : Nat → Int32) (x : Int32) (n : Nat) : Option (Int32) := (if (mBnm (nI n).toNatClampNeg) = x then some (nI n) else none)
def f_X12_named_T (mBts : Int32) (mBnm : Nat → Int32) (x : Int32) : Int32 := (bif (f_X12_isName x) then ((fst_ (fun k => (E_X12_named_T_11 mBnm x k)) mBts.toNatClampNeg).getD (-2)) else (-1))
set_option maxHeartbeats 4000000 in
set_option maxRecDepth 100000 in
theorem c_X12_named_T (l : Launch) (D : va_G) (A : Nat → Prop) (w : va_W) (α : Nat → Nat) (k : Nat) (mTaped : Int32) (mErr : Int32) (mPpl : Int32) (mBts : Int32) (mUs : Int32) (mRa : Int32) (mSt : Int32) (mKi : Int32) (mWd : Int64) (mVal : Int32) (mLet : Int32) (mFin : Int32) (mNp : Int32) (mNb : Int32) (mOuts : Int32) (mWant : Int32) (mFnd : Int32) (mTape : Nat → Int32) (mNum : Nat → Int32) (mNam : Nat → Int32) (mFst : Nat → Int32) (mBnm : Nat → Int32) (mW : Nat → Int32) (mUn : Nat → Int32) (mSl : Nat → Int32) (mKp : Nat → Int32) (mnNum : Nat → Int32) (mnNam : Nat → Int32) (mnBo : Nat → Int32) (mnBn : Nat → Int32) (x : Int32) (hB0 : Blk w k (cM D α k mTaped mErr mPpl mBts mUs mRa mSt mKi mWd mVal mLet mFin mNp mNb mOuts mWant mFnd mTape mNum mNam mFst mBnm mW mUn mSl mKp mnNum mnNam mnBo mnBn)) (hy0 : vp_in mPpl 21) (hy1 : vp_in mBts 7) : Met l yX12_named_ (ws_ yX12_named_ cX12_named_ 4 (some .int)) ({ frames := 1, cells := 0, slots := 0, locals := 24 }) (gPre D A [.ref (α (k)), .int x, .int (b2i true)] w) (gR (some (.int (f_X12_named_T mBts mBnm x)))) 0 0 A := by
  refine g_met [(0, .ref (α (k))), (1, .int x), (2, .int (b2i true))] (plainFor_of_name (by decide)) (Nat.le_of_ble_eq_true rfl) rfl (fun pg en s mi ar below me co ls S hK hP hD hE hS hr hlk hnm hl => ?_)
  refine lv_iload_n S.1 S.2.1 dX12_named__0 rfl (lv_at hl 1 rfl) ?_
  refine g_aftR0 (st1 := [.int (b2i (f_X12_isName x))]) (g_St (As := [.int x]) (rest := []) S ms_X12_isName qw1809 (c_X12_isName l D A w α x) hK hP hD hE hS rfl rfl hl.1 (Nat.le_of_ble_eq_true rfl) rfl rfl ⟨(Nat.le_of_ble_eq_true rfl), (Nat.le_of_ble_eq_true rfl)⟩ ⟨(Nat.le_of_ble_eq_true rfl), (Nat.le_of_ble_eq_true rfl)⟩ dX12_named__1) hS rfl (fun locs hS => ?_)
  refine g_bifne (b := (f_X12_isName x)) (tgt := 9) S dX12_named__4 (by decide) (fun (c1 : (f_X12_isName x) = true) => ?_) (fun (c1 : (f_X12_isName x) = false) => ?_)
  · refine lv_iconst (v := 0) S.1 S.2.1 dX12_named__9 (by decide) ?_
    refine lv_istore_n (lv' := [(3, .int 0), (0, .ref (α (k))), (1, .int x), (2, .int (b2i true))]) S.1 S.2.1 dX12_named__10 rfl hl (by decide) rfl (fun ls hl => ?_)
    have lp11 : ∀ (j n : Nat), n + j = mBts.toNatClampNeg → fst_ (fun k => (E_X12_named_T_11 mBnm x k)) n = none → ∀ (locs : List Loc) (ls : Array Slot), va_S A s.heap s.heap locs → lv_has ls 4 [(3, .int (nI n)), (0, .ref (α (k))), (1, .int x), (2, .int (b2i true))] → W pg l en ({ frames := 1, cells := 0, slots := 0, locals := 24 } : Room) s mi ar below me co s.heap locs 0 0 (MQ below (gR (some (.int (f_X12_named_T mBts mBnm x)))) ar s 0 0 A) (F0 mi 11 ls []) := by
      intro j
      induction j with
      | zero =>
        intro n hn he locs ls hS hl
        have hn : mBts.toNatClampNeg = n := hn.symm
        subst hn
        refine lv_iload_n S.1 S.2.1 dX12_named__11 rfl (lv_at hl 0 rfl) ?_
        refine lv_iload_n S.1 S.2.1 dX12_named__12 rfl (lv_at hl 3 rfl) ?_
        refine g_bifeq (tgt := 23) S dX12_named__13 (by decide) (fun c2 => absurd c2 (by decide)) (fun _ => ?_)
        refine lv_aload_n S.1 S.2.1 dX12_named__16 rfl (lv_at hl 1 rfl) ?_
        refine g_get (v := .int mBts) S hK hP (hB0 0 _ rfl) rfl inX12 5 (by decide) qw1379 rfl dX12_named__17 ?_
        refine lv_goto (tgt := 27) S.1 S.2.1 dX12_named__20 (by decide) ?_
        refine lv_icmp_ge (tgt := 61) S.1 S.2.1 dX12_named__27 (by decide) (fun (c3 : mBts ≤ (nI mBts.toNatClampNeg)) => ?_) (fun (c3 : ¬ mBts ≤ (nI mBts.toNatClampNeg)) => absurd c3 (lp_out (s := 0) ((Nat.max_eq_left (Nat.zero_le _)).symm)))
        refine lv_bipush (v := (-2)) S.1 S.2.1 dX12_named__61 (by decide) ?_
        have hf : (f_X12_named_T mBts mBnm x) = (-2) := (cd_t c1).trans (gd_n he)
        exact g_iretR S hr hlk hS (by rw [hf] <;> rfl) dX12_named__63
      | succ j ih =>
        intro n hn he locs ls hS hl
        refine lv_iload_n S.1 S.2.1 dX12_named__11 rfl (lv_at hl 0 rfl) ?_
        refine lv_iload_n S.1 S.2.1 dX12_named__12 rfl (lv_at hl 3 rfl) ?_
        refine g_bifeq (tgt := 23) S dX12_named__13 (by decide) (fun c4 => absurd c4 (by decide)) (fun _ => ?_)
        refine lv_aload_n S.1 S.2.1 dX12_named__16 rfl (lv_at hl 1 rfl) ?_
        refine g_get (v := .int mBts) S hK hP (hB0 0 _ rfl) rfl inX12 5 (by decide) qw1379 rfl dX12_named__17 ?_
        refine lv_goto (tgt := 27) S.1 S.2.1 dX12_named__20 (by decide) ?_
        refine lv_icmp_ge (tgt := 61) S.1 S.2.1 dX12_named__27 (by decide) (fun (c5 : mBts ≤ (nI n)) => absurd c5 (lp_in (s := 0) (rfl) hn)) (fun (c5 : ¬ mBts ≤ (nI n)) => ?_)
        refine lv_iload_n S.1 S.2.1 dX12_named__30 rfl (lv_at hl 3 rfl) ?_
        refine g_bifeq (tgt := 43) S dX12_named__31 (by decide) (fun c6 => absurd c6 (by decide)) (fun _ => ?_)
        refine lv_aload_n S.1 S.2.1 dX12_named__34 rfl (lv_at hl 1 rfl) ?_
        refine g_get (v := .ref (α (k + 5))) S hK hP (hB0 0 _ rfl) rfl inX12 8 (by decide) qw1382 rfl dX12_named__35 ?_
        refine lv_iload_n S.1 S.2.1 dX12_named__38 rfl (lv_at hl 0 rfl) ?_
        refine g_iald S hK hP (hB0 5 _ rfl) (nm_b hy1 hn) dX12_named__39 ?_
        refine lv_goto (tgt := 49) S.1 S.2.1 dX12_named__40 (by decide) ?_
        refine lv_iload_n S.1 S.2.1 dX12_named__49 rfl (lv_at hl 2 rfl) ?_
        refine lv_icmp_ne (tgt := 55) S.1 S.2.1 dX12_named__50 (by decide) (fun (c7 : ¬ (mBnm (nI n).toNatClampNeg) = x) => ?_) (fun (c7 : (mBnm (nI n).toNatClampNeg) = x) => ?_)
        · refine lv_iinc (v := (nI (n + 1))) (lv' := [(3, .int (nI (n + 1))), (0, .ref (α (k))), (1, .int x), (2, .int (b2i true))]) S.1 S.2.1 dX12_named__55 hl (k := 0) rfl ((nI_succ n).symm) (by decide) rfl (fun ls hl => ?_)
          refine lv_goto (tgt := 11) S.1 S.2.1 dX12_named__58 (by decide) ?_
          have hE : (E_X12_named_T_11 mBnm x n) = none := if_neg c7
          refine ih (n + 1) (by omega) (fst_n he hE) _ _ hS ?_
          exact lv_sub hl [0, 1, 2, 3] rfl
        · refine lv_iload_n S.1 S.2.1 dX12_named__53 rfl (lv_at hl 0 rfl) ?_
          have hE1 : (E_X12_named_T_11 mBnm x n) = some (nI n) := if_pos c7
          have hE2 : fst_ (fun k => (E_X12_named_T_11 mBnm x k)) mBts.toNatClampNeg = some (nI n) := fst_s he hE1 (by omega)
          have hf : (f_X12_named_T mBts mBnm x) = (nI n) := (cd_t c1).trans (gd_s hE2)
          exact g_iretR S hr hlk hS (by rw [hf] <;> rfl) dX12_named__54
    exact lp11 mBts.toNatClampNeg 0 (Nat.zero_add _) rfl _ _ hS (lv_sub hl [0, 1, 2, 3] rfl)
  · refine lv_iconst (v := (-1)) S.1 S.2.1 dX12_named__7 (by decide) ?_
    have hf : (f_X12_named_T mBts mBnm x) = (-1) := cd_f c1
    exact g_iretR S hr hlk hS (by rw [hf] <;> rfl) dX12_named__8
