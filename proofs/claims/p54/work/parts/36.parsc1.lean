noncomputable def G_X4_digits_7 (pst : Int32) (tp : Nat → Int32) (tl : Int32) (n : Nat) (sn : Int32) : Int32 := (((sn * 10) + (f_X1_at 800 tp tl (ofs_ pst (n)))) - 48)
noncomputable def L_X4_digits_7 (pst : Int32) (tp : Nat → Int32) (tl : Int32) : Nat → Int32 := iter_ (G_X4_digits_7 pst tp tl) 0
noncomputable def f_X4_digits (pst : Int32) (pe : Int32) (tp : Nat → Int32) (tl : Int32) : Int32 := (L_X4_digits_7 pst tp tl (pe.toNatClampNeg - pst.toNatClampNeg))
set_option maxHeartbeats 4000000 in
set_option maxRecDepth 100000 in
theorem c_X4_digits (l : Launch) (D : va_G) (A : Nat → Prop) (w : va_W) (α : Nat → Nat) (k : Nat) (pk : Int32) (pst : Int32) (pe : Int32) (tp : Nat → Int32) (tl : Int32) (dnums : Nat → Int32) (dbNames : Nat → Int32) (dpNames : Nat → Int32) (dfBoats : Nat → Int32) (dnB : Int32) (dnP : Int32) (hB0 : Blk w k (cParser D α k pk pst pe tp tl dnums dbNames dpNames dfBoats dnB dnP)) (hy0 : rd_ pst pe) : Met l yX4_digits (ws_ yX4_digits cX4_digits 3 (some .int)) ({ frames := 1, cells := 0, slots := 0, locals := 21 }) (gPre D A [.ref (α (k))] w) (gR (some (.int (f_X4_digits pst pe tp tl)))) 0 0 A := by
  refine g_met [(0, .ref (α (k)))] (plainFor_of_name (by decide)) (Nat.le_of_ble_eq_true rfl) rfl (fun pg en s mi ar below me co ls S hK hP hD hE hS hr hlk hnm hl => ?_)
  refine lv_iconst (v := 0) S.1 S.2.1 dX4_digits_0 (by decide) ?_
  refine lv_istore_n (lv' := [(1, .int 0), (0, .ref (α (k)))]) S.1 S.2.1 dX4_digits_1 rfl hl (by decide) rfl (fun ls hl => ?_)
  refine lv_aload_n S.1 S.2.1 dX4_digits_2 rfl (lv_at hl 1 rfl) ?_
  refine g_get (v := .int pst) S hK hP (hB0 0 _ rfl) rfl inX4 3 (by decide) qw86 rfl dX4_digits_3 ?_
  refine lv_istore_n (lv' := [(2, .int pst), (1, .int 0), (0, .ref (α (k)))]) S.1 S.2.1 dX4_digits_6 rfl hl (by decide) rfl (fun ls hl => ?_)
  have lp7 : ∀ (j n : Nat), n + j = (pe.toNatClampNeg - pst.toNatClampNeg) → ∀ (locs : List Loc) (ls : Array Slot), va_S A s.heap s.heap locs → lv_has ls 3 [(2, .int (ofs_ pst (n))), (1, .int (L_X4_digits_7 pst tp tl n)), (0, .ref (α (k)))] → W pg l en ({ frames := 1, cells := 0, slots := 0, locals := 21 } : Room) s mi ar below me co s.heap locs 0 0 (MQ below (gR (some (.int (f_X4_digits pst pe tp tl)))) ar s 0 0 A) (F0 mi 7 ls []) := by
    intro j
    induction j with
    | zero =>
      intro n hn locs ls hS hl
      have hn : (pe.toNatClampNeg - pst.toNatClampNeg) = n := hn.symm
      subst hn
      refine lv_iload_n S.1 S.2.1 dX4_digits_7 rfl (lv_at hl 0 rfl) ?_
      refine lv_aload_n S.1 S.2.1 dX4_digits_8 rfl (lv_at hl 2 rfl) ?_
      refine g_get (v := .int pe) S hK hP (hB0 0 _ rfl) rfl inX4 4 (by decide) qw87 rfl dX4_digits_9 ?_
      refine lv_icmp_ge (tgt := 38) S.1 S.2.1 dX4_digits_12 (by decide) (fun (c1 : pe ≤ (ofs_ pst ((pe.toNatClampNeg - pst.toNatClampNeg)))) => ?_) (fun (c1 : ¬ pe ≤ (ofs_ pst ((pe.toNatClampNeg - pst.toNatClampNeg)))) => absurd c1 (ofs_out hy0))
      refine lv_iload_n S.1 S.2.1 dX4_digits_38 rfl (lv_at hl 1 rfl) ?_
      have hf : (f_X4_digits pst pe tp tl) = (L_X4_digits_7 pst tp tl (pe.toNatClampNeg - pst.toNatClampNeg)) := rfl
      exact g_iretR S hr hlk hS (by rw [hf] <;> rfl) dX4_digits_39
    | succ j ih =>
      intro n hn locs ls hS hl
      refine lv_iload_n S.1 S.2.1 dX4_digits_7 rfl (lv_at hl 0 rfl) ?_
      refine lv_aload_n S.1 S.2.1 dX4_digits_8 rfl (lv_at hl 2 rfl) ?_
      refine g_get (v := .int pe) S hK hP (hB0 0 _ rfl) rfl inX4 4 (by decide) qw87 rfl dX4_digits_9 ?_
      refine lv_icmp_ge (tgt := 38) S.1 S.2.1 dX4_digits_12 (by decide) (fun (c2 : pe ≤ (ofs_ pst (n))) => absurd c2 (ofs_in hy0 hn)) (fun (c2 : ¬ pe ≤ (ofs_ pst (n))) => ?_)
      refine lv_iload_n S.1 S.2.1 dX4_digits_15 rfl (lv_at hl 1 rfl) ?_
      refine lv_bipush (v := 10) S.1 S.2.1 dX4_digits_16 (by decide) ?_
      refine lv_imul S.1 S.2.1 dX4_digits_18 ?_
      refine lv_aload_n S.1 S.2.1 dX4_digits_19 rfl (lv_at hl 2 rfl) ?_
      refine g_get (v := .ref (α (k + 1))) S hK hP (hB0 0 _ rfl) rfl inX4 0 (by decide) qw81 rfl dX4_digits_20 ?_
      refine lv_iload_n S.1 S.2.1 dX4_digits_23 rfl (lv_at hl 0 rfl) ?_
      refine g_aftR0 (st1 := [.int (f_X1_at 800 tp tl (ofs_ pst (n))), .int ((L_X4_digits_7 pst tp tl n) * 10)]) (g_V (As := [.int (ofs_ pst (n))]) (rest := [.int ((L_X4_digits_7 pst tp tl n) * 10)]) S mi_X1_at qw614 (c_X1_at l D A w α (k + 1) 800 tp tl (ofs_ pst (n)) (hB0.sub 1 rfl) (Nat.le_of_ble_eq_true rfl)) hK hP hD hE hS (hB0 1 _ rfl) rfl rfl rfl hl.1 (Nat.le_of_ble_eq_true rfl) rfl rfl ⟨(Nat.le_of_ble_eq_true rfl), (Nat.le_of_ble_eq_true rfl)⟩ ⟨(Nat.le_of_ble_eq_true rfl), (Nat.le_of_ble_eq_true rfl)⟩ dX4_digits_24) hS rfl (fun locs hS => ?_)
      refine lv_iadd S.1 S.2.1 dX4_digits_27 ?_
      refine lv_bipush (v := 48) S.1 S.2.1 dX4_digits_28 (by decide) ?_
      refine lv_isub S.1 S.2.1 dX4_digits_30 ?_
      refine lv_istore_n (lv' := [(1, .int ((((L_X4_digits_7 pst tp tl n) * 10) + (f_X1_at 800 tp tl (ofs_ pst (n)))) - 48)), (2, .int (ofs_ pst (n))), (0, .ref (α (k)))]) S.1 S.2.1 dX4_digits_31 rfl hl (by decide) rfl (fun ls hl => ?_)
      refine lv_iinc (v := (ofs_ pst (n + 1))) (lv' := [(2, .int (ofs_ pst (n + 1))), (1, .int ((((L_X4_digits_7 pst tp tl n) * 10) + (f_X1_at 800 tp tl (ofs_ pst (n)))) - 48)), (0, .ref (α (k)))]) S.1 S.2.1 dX4_digits_32 hl (k := 1) rfl (rfl) (by decide) rfl (fun ls hl => ?_)
      refine lv_goto (tgt := 7) S.1 S.2.1 dX4_digits_35 (by decide) ?_
      have hL : (L_X4_digits_7 pst tp tl (n + 1)) = ((((L_X4_digits_7 pst tp tl n) * 10) + (f_X1_at 800 tp tl (ofs_ pst (n)))) - 48) := (iter_s _ _ _).trans (show (G_X4_digits_7 pst tp tl n (L_X4_digits_7 pst tp tl n)) = ((((L_X4_digits_7 pst tp tl n) * 10) + (f_X1_at 800 tp tl (ofs_ pst (n)))) - 48) from rfl)
      refine ih (n + 1) (lp_n hn) _ _ hS ?_
      rw [hL]; exact lv_sub hl [0, 1, 2] rfl
  have hL0 : (L_X4_digits_7 pst tp tl 0) = 0 := iter_z _ _
  exact lp7 (pe.toNatClampNeg - pst.toNatClampNeg) 0 (Nat.zero_add (pe.toNatClampNeg - pst.toNatClampNeg)) _ _ hS (by rw [hL0]; exact lv_sub hl [0, 1, 2] rfl)
