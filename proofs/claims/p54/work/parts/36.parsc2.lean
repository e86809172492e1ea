noncomputable def G_X4_letters_10 (pst : Int32) (tp : Nat → Int32) (tl : Int32) (n : Nat) (sn : Int32 × Int32) : Int32 × Int32 := ((sn.1 + (-5)), (sn.2 ||| ((((f_X1_at 800 tp tl (ofs_ pst (n))) - 97) + 1) <<< ((sn.1) &&& 31))))
noncomputable def L_X4_letters_10 (pst : Int32) (tp : Nat → Int32) (tl : Int32) : Nat → Int32 × Int32 := iter_ (G_X4_letters_10 pst tp tl) (25, 0)
noncomputable def f_X4_letters (pst : Int32) (pe : Int32) (tp : Nat → Int32) (tl : Int32) : Int32 := (L_X4_letters_10 pst tp tl (min (pe.toNatClampNeg - pst.toNatClampNeg) 6)).2
theorem letters_sh {tp : Nat → Int32} {tl pst : Int32} (n : Nat) : (L_X4_letters_10 pst tp tl n).1 = sh5 n :=
  iter_inv (N := n) (fun n (s : Int32 × Int32) => s.1 = sh5 n) rfl (fun n s hk hs => by
    show s.1 + (-5) = sh5 (n + 1)
    rw [hs]
    exact sh5_s n) n (Nat.le_refl n)
set_option maxHeartbeats 4000000 in
set_option maxRecDepth 100000 in
theorem c_X4_letters (l : Launch) (D : va_G) (A : Nat → Prop) (w : va_W) (α : Nat → Nat) (k : Nat) (pk : Int32) (pst : Int32) (pe : Int32) (tp : Nat → Int32) (tl : Int32) (dnums : Nat → Int32) (dbNames : Nat → Int32) (dpNames : Nat → Int32) (dfBoats : Nat → Int32) (dnB : Int32) (dnP : Int32) (hB0 : Blk w k (cParser D α k pk pst pe tp tl dnums dbNames dpNames dfBoats dnB dnP)) (hy0 : rd_ pst pe) : Met l yX4_letters (ws_ yX4_letters cX4_letters 4 (some .int)) ({ frames := 1, cells := 0, slots := 0, locals := 21 }) (gPre D A [.ref (α (k))] w) (gR (some (.int (f_X4_letters pst pe tp tl)))) 0 0 A := by
  refine g_met [(0, .ref (α (k)))] (plainFor_of_name (by decide)) (Nat.le_of_ble_eq_true rfl) rfl (fun pg en s mi ar below me co ls S hK hP hD hE hS hr hlk hnm hl => ?_)
  refine lv_iconst (v := 0) S.1 S.2.1 dX4_letters_0 (by decide) ?_
  refine lv_istore_n (lv' := [(1, .int 0), (0, .ref (α (k)))]) S.1 S.2.1 dX4_letters_1 rfl hl (by decide) rfl (fun ls hl => ?_)
  refine lv_bipush (v := 25) S.1 S.2.1 dX4_letters_2 (by decide) ?_
  refine lv_istore_n (lv' := [(2, .int 25), (1, .int 0), (0, .ref (α (k)))]) S.1 S.2.1 dX4_letters_4 rfl hl (by decide) rfl (fun ls hl => ?_)
  refine lv_aload_n S.1 S.2.1 dX4_letters_5 rfl (lv_at hl 2 rfl) ?_
  refine g_get (v := .int pst) S hK hP (hB0 0 _ rfl) rfl inX4 3 (by decide) qw86 rfl dX4_letters_6 ?_
  refine lv_istore_n (lv' := [(3, .int pst), (2, .int 25), (1, .int 0), (0, .ref (α (k)))]) S.1 S.2.1 dX4_letters_9 rfl hl (by decide) rfl (fun ls hl => ?_)
  have lp10 : ∀ (j n : Nat), n + j = (min (pe.toNatClampNeg - pst.toNatClampNeg) 6) → ∀ (locs : List Loc) (ls : Array Slot), va_S A s.heap s.heap locs → lv_has ls 4 [(3, .int (ofs_ pst (n))), (2, .int ((L_X4_letters_10 pst tp tl n).1)), (1, .int ((L_X4_letters_10 pst tp tl n).2)), (0, .ref (α (k)))] → W pg l en ({ frames := 1, cells := 0, slots := 0, locals := 21 } : Room) s mi ar below me co s.heap locs 0 0 (MQ below (gR (some (.int (f_X4_letters pst pe tp tl)))) ar s 0 0 A) (F0 mi 10 ls []) := by
    intro j
    induction j with
    | zero =>
      intro n hn locs ls hS hl
      have hn : (min (pe.toNatClampNeg - pst.toNatClampNeg) 6) = n := hn.symm
      subst hn
      refine lv_iload_n S.1 S.2.1 dX4_letters_10 rfl (lv_at hl 0 rfl) ?_
      refine lv_aload_n S.1 S.2.1 dX4_letters_11 rfl (lv_at hl 3 rfl) ?_
      refine g_get (v := .int pe) S hK hP (hB0 0 _ rfl) rfl inX4 4 (by decide) qw87 rfl dX4_letters_12 ?_
      refine lv_icmp_ge (tgt := 49) S.1 S.2.1 dX4_letters_15 (by decide) (fun (c1 : pe ≤ (ofs_ pst ((min (pe.toNatClampNeg - pst.toNatClampNeg) 6)))) => ?_) (fun (c1 : ¬ pe ≤ (ofs_ pst ((min (pe.toNatClampNeg - pst.toNatClampNeg) 6)))) => ?_)
      · refine lv_iload_n S.1 S.2.1 dX4_letters_49 rfl (lv_at hl 2 rfl) ?_
        have hf : (f_X4_letters pst pe tp tl) = (L_X4_letters_10 pst tp tl (min (pe.toNatClampNeg - pst.toNatClampNeg) 6)).2 := rfl
        exact g_iretR S hr hlk hS (by rw [hf] <;> rfl) dX4_letters_50
      · refine lv_iload_n S.1 S.2.1 dX4_letters_18 rfl (lv_at hl 1 rfl) ?_
        refine lv_if_lt (tgt := 49) S.1 S.2.1 dX4_letters_19 (by decide) (fun (c2 : (L_X4_letters_10 pst tp tl (min (pe.toNatClampNeg - pst.toNatClampNeg) 6)).1 < 0) => ?_) (fun (c2 : ¬ (L_X4_letters_10 pst tp tl (min (pe.toNatClampNeg - pst.toNatClampNeg) 6)).1 < 0) => absurd c2 ((by rw [letters_sh, le_out hy0 (by assumption)]; exact sh5_out)))
        refine lv_iload_n S.1 S.2.1 dX4_letters_49 rfl (lv_at hl 2 rfl) ?_
        have hf : (f_X4_letters pst pe tp tl) = (L_X4_letters_10 pst tp tl (min (pe.toNatClampNeg - pst.toNatClampNeg) 6)).2 := rfl
        exact g_iretR S hr hlk hS (by rw [hf] <;> rfl) dX4_letters_50
    | succ j ih =>
      intro n hn locs ls hS hl
      refine lv_iload_n S.1 S.2.1 dX4_letters_10 rfl (lv_at hl 0 rfl) ?_
      refine lv_aload_n S.1 S.2.1 dX4_letters_11 rfl (lv_at hl 3 rfl) ?_
      refine g_get (v := .int pe) S hK hP (hB0 0 _ rfl) rfl inX4 4 (by decide) qw87 rfl dX4_letters_12 ?_
      refine lv_icmp_ge (tgt := 49) S.1 S.2.1 dX4_letters_15 (by decide) (fun (c3 : pe ≤ (ofs_ pst (n))) => absurd c3 (le_in hy0 hn)) (fun (c3 : ¬ pe ≤ (ofs_ pst (n))) => ?_)
      refine lv_iload_n S.1 S.2.1 dX4_letters_18 rfl (lv_at hl 1 rfl) ?_
      refine lv_if_lt (tgt := 49) S.1 S.2.1 dX4_letters_19 (by decide) (fun (c4 : (L_X4_letters_10 pst tp tl n).1 < 0) => absurd c4 ((by rw [letters_sh]; exact sh5_in (j := 5 - n) (by omega)))) (fun (c4 : ¬ (L_X4_letters_10 pst tp tl n).1 < 0) => ?_)
      refine lv_iload_n S.1 S.2.1 dX4_letters_22 rfl (lv_at hl 2 rfl) ?_
      refine lv_aload_n S.1 S.2.1 dX4_letters_23 rfl (lv_at hl 3 rfl) ?_
      refine g_get (v := .ref (α (k + 1))) S hK hP (hB0 0 _ rfl) rfl inX4 0 (by decide) qw81 rfl dX4_letters_24 ?_
      refine lv_iload_n S.1 S.2.1 dX4_letters_27 rfl (lv_at hl 0 rfl) ?_
      refine g_aftR0 (st1 := [.int (f_X1_at 800 tp tl (ofs_ pst (n))), .int ((L_X4_letters_10 pst tp tl n).2)]) (g_V (As := [.int (ofs_ pst (n))]) (rest := [.int ((L_X4_letters_10 pst tp tl n).2)]) S mi_X1_at qw614 (c_X1_at l D A w α (k + 1) 800 tp tl (ofs_ pst (n)) (hB0.sub 1 rfl) (Nat.le_of_ble_eq_true rfl)) hK hP hD hE hS (hB0 1 _ rfl) rfl rfl rfl hl.1 (Nat.le_of_ble_eq_true rfl) rfl rfl ⟨(Nat.le_of_ble_eq_true rfl), (Nat.le_of_ble_eq_true rfl)⟩ ⟨(Nat.le_of_ble_eq_true rfl), (Nat.le_of_ble_eq_true rfl)⟩ dX4_letters_28) hS rfl (fun locs hS => ?_)
      refine lv_bipush (v := 97) S.1 S.2.1 dX4_letters_31 (by decide) ?_
      refine lv_isub S.1 S.2.1 dX4_letters_33 ?_
      refine lv_iconst (v := 1) S.1 S.2.1 dX4_letters_34 (by decide) ?_
      refine lv_iadd S.1 S.2.1 dX4_letters_35 ?_
      refine lv_iload_n S.1 S.2.1 dX4_letters_36 rfl (lv_at hl 1 rfl) ?_
      refine lv_ishl S.1 S.2.1 dX4_letters_37 ?_
      refine lv_ior S.1 S.2.1 dX4_letters_38 ?_
      refine lv_istore_n (lv' := [(1, .int ((L_X4_letters_10 pst tp tl n).2 ||| ((((f_X1_at 800 tp tl (ofs_ pst (n))) - 97) + 1) <<< (((L_X4_letters_10 pst tp tl n).1) &&& 31)))), (3, .int (ofs_ pst (n))), (2, .int ((L_X4_letters_10 pst tp tl n).1)), (0, .ref (α (k)))]) S.1 S.2.1 dX4_letters_39 rfl hl (by decide) rfl (fun ls hl => ?_)
      refine lv_iinc (v := ((L_X4_letters_10 pst tp tl n).1 + (-5))) (lv' := [(2, .int ((L_X4_letters_10 pst tp tl n).1 + (-5))), (1, .int ((L_X4_letters_10 pst tp tl n).2 ||| ((((f_X1_at 800 tp tl (ofs_ pst (n))) - 97) + 1) <<< (((L_X4_letters_10 pst tp tl n).1) &&& 31)))), (3, .int (ofs_ pst (n))), (0, .ref (α (k)))]) S.1 S.2.1 dX4_letters_40 hl (k := 2) rfl (rfl) (by decide) rfl (fun ls hl => ?_)
      refine lv_iinc (v := (ofs_ pst (n + 1))) (lv' := [(3, .int (ofs_ pst (n + 1))), (2, .int ((L_X4_letters_10 pst tp tl n).1 + (-5))), (1, .int ((L_X4_letters_10 pst tp tl n).2 ||| ((((f_X1_at 800 tp tl (ofs_ pst (n))) - 97) + 1) <<< (((L_X4_letters_10 pst tp tl n).1) &&& 31)))), (0, .ref (α (k)))]) S.1 S.2.1 dX4_letters_43 hl (k := 2) rfl (rfl) (by decide) rfl (fun ls hl => ?_)
      refine lv_goto (tgt := 10) S.1 S.2.1 dX4_letters_46 (by decide) ?_
      have hL : (L_X4_letters_10 pst tp tl (n + 1)) = (((L_X4_letters_10 pst tp tl n).1 + (-5)), ((L_X4_letters_10 pst tp tl n).2 ||| ((((f_X1_at 800 tp tl (ofs_ pst (n))) - 97) + 1) <<< (((L_X4_letters_10 pst tp tl n).1) &&& 31)))) := (iter_s _ _ _).trans (show (G_X4_letters_10 pst tp tl n (L_X4_letters_10 pst tp tl n)) = (((L_X4_letters_10 pst tp tl n).1 + (-5)), ((L_X4_letters_10 pst tp tl n).2 ||| ((((f_X1_at 800 tp tl (ofs_ pst (n))) - 97) + 1) <<< (((L_X4_letters_10 pst tp tl n).1) &&& 31)))) from rfl)
      refine ih (n + 1) (lp_n hn) _ _ hS ?_
      rw [hL]; (try dsimp only); exact lv_sub hl [0, 1, 2, 3] rfl
  have hL0 : (L_X4_letters_10 pst tp tl 0) = (25, 0) := iter_z _ _
  exact lp10 (min (pe.toNatClampNeg - pst.toNatClampNeg) 6) 0 (Nat.zero_add (min (pe.toNatClampNeg - pst.toNatClampNeg) 6)) _ _ hS (by rw [hL0]; exact lv_sub hl [0, 1, 2, 3] rfl)
