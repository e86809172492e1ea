noncomputable def E_X4_reads_20 (pst : Int32) (tp : Nat → Int32) (tl : Int32) (x : Nat) (n : Nat) : Option (Bool) := (if (f_X1_at 800 tp tl (pst + (nI n))) = (sCh x (nI n)) then none else some false)
noncomputable def f_X4_reads (pst : Int32) (pe : Int32) (tp : Nat → Int32) (tl : Int32) (x : Nat) : Bool := (if (pe - pst) = (nI (strLen.getD x 0)) then ((fst_ (fun k => (E_X4_reads_20 pst tp tl x k)) (strLen.getD x 0)).getD true) else false)
set_option maxHeartbeats 4000000 in
set_option maxRecDepth 100000 in
theorem c_X4_reads (l : Launch) (D : va_G) (A : Nat → Prop) (w : va_W) (α : Nat → Nat) (k : Nat) (pk : Int32) (pst : Int32) (pe : Int32) (tp : Nat → Int32) (tl : Int32) (dnums : Nat → Int32) (dbNames : Nat → Int32) (dpNames : Nat → Int32) (dfBoats : Nat → Int32) (dnB : Int32) (dnP : Int32) (x : Nat) (hB0 : Blk w k (cParser D α k pk pst pe tp tl dnums dbNames dpNames dfBoats dnB dnP)) (hy0 : x < strLen.length) : Met l yX4_reads (ws_ yX4_reads cX4_reads 3 (some .boolean)) ({ frames := 4, cells := 0, slots := 0, locals := 85 }) (gPre D A [.ref (α (k)), .ref (D.2 200 x)] w) (gR (some (.int (b2i (f_X4_reads pst pe tp tl x))))) 0 0 A := by
  refine g_met [(0, .ref (α (k))), (1, .ref (D.2 200 x))] (plainFor_of_name (by decide)) (Nat.le_of_ble_eq_true rfl) rfl (fun pg en s mi ar below me co ls S hK hP hD hE hS hr hlk hnm hl => ?_)
  have hsl := strLen_lt x
  refine lv_aload_n S.1 S.2.1 dX4_reads_0 rfl (lv_at hl 0 rfl) ?_
  refine g_get (v := .int pe) S hK hP (hB0 0 _ rfl) rfl inX4 4 (by decide) qw87 rfl dX4_reads_1 ?_
  refine lv_aload_n S.1 S.2.1 dX4_reads_4 rfl (lv_at hl 0 rfl) ?_
  refine g_get (v := .int pst) S hK hP (hB0 0 _ rfl) rfl inX4 3 (by decide) qw86 rfl dX4_reads_5 ?_
  refine lv_isub S.1 S.2.1 dX4_reads_8 ?_
  refine lv_aload_n S.1 S.2.1 dX4_reads_9 rfl (lv_at hl 1 rfl) ?_
  refine g_aftR0 (st1 := [.int (nI (strLen.getD x 0)), .int (pe - pst)]) (g_Vs (As := []) (rest := [.int (pe - pst)]) S mi_J0_length_8abf5 qw644 (c_J0_length_8abf5 l D A w x hy0) hK hP hD hE hS hy0 rfl rfl hl.1 (Nat.le_of_ble_eq_true rfl) rfl rfl ⟨(Nat.le_of_ble_eq_true rfl), (Nat.le_of_ble_eq_true rfl)⟩ ⟨(Nat.le_of_ble_eq_true rfl), (Nat.le_of_ble_eq_true rfl)⟩ dX4_reads_10) hS rfl (fun locs hS => ?_)
  refine lv_icmp_eq (tgt := 18) S.1 S.2.1 dX4_reads_13 (by decide) (fun (c1 : (pe - pst) = (nI (strLen.getD x 0))) => ?_) (fun (c1 : ¬ (pe - pst) = (nI (strLen.getD x 0))) => ?_)
  · refine lv_iconst (v := 0) S.1 S.2.1 dX4_reads_18 (by decide) ?_
    refine lv_istore_n (lv' := [(2, .int 0), (0, .ref (α (k))), (1, .ref (D.2 200 x))]) S.1 S.2.1 dX4_reads_19 rfl hl (by decide) rfl (fun ls hl => ?_)
    have lp20 : ∀ (j n : Nat), n + j = (strLen.getD x 0) → fst_ (fun k => (E_X4_reads_20 pst tp tl x k)) n = none → ∀ (locs : List Loc) (ls : Array Slot), va_S A s.heap s.heap locs → lv_has ls 3 [(2, .int (nI n)), (0, .ref (α (k))), (1, .ref (D.2 200 x))] → W pg l en ({ frames := 4, cells := 0, slots := 0, locals := 85 } : Room) s mi ar below me co s.heap locs 0 0 (MQ below (gR (some (.int (b2i (f_X4_reads pst pe tp tl x))))) ar s 0 0 A) (F0 mi 20 ls []) := by
      intro j
      induction j with
      | zero =>
        intro n hn he locs ls hS hl
        have hn : (strLen.getD x 0) = n := hn.symm
        subst hn
        refine lv_iload_n S.1 S.2.1 dX4_reads_20 rfl (lv_at hl 0 rfl) ?_
        refine lv_aload_n S.1 S.2.1 dX4_reads_21 rfl (lv_at hl 2 rfl) ?_
        refine g_aftR0 (st1 := [.int (nI (strLen.getD x 0)), .int (nI (strLen.getD x 0))]) (g_Vs (As := []) (rest := [.int (nI (strLen.getD x 0))]) S mi_J0_length_8abf5 qw644 (c_J0_length_8abf5 l D A w x hy0) hK hP hD hE hS hy0 rfl rfl hl.1 (Nat.le_of_ble_eq_true rfl) rfl rfl ⟨(Nat.le_of_ble_eq_true rfl), (Nat.le_of_ble_eq_true rfl)⟩ ⟨(Nat.le_of_ble_eq_true rfl), (Nat.le_of_ble_eq_true rfl)⟩ dX4_reads_22) hS rfl (fun locs hS => ?_)
        refine lv_icmp_ge (tgt := 57) S.1 S.2.1 dX4_reads_25 (by decide) (fun (c2 : (nI (strLen.getD x 0)) ≤ (nI (strLen.getD x 0))) => ?_) (fun (c2 : ¬ (nI (strLen.getD x 0)) ≤ (nI (strLen.getD x 0))) => absurd c2 (lp_out0 ((nI_clamp (by omega)).symm)))
        refine lv_iconst (v := 1) S.1 S.2.1 dX4_reads_57 (by decide) ?_
        have hf : (f_X4_reads pst pe tp tl x) = true := (if_pos c1).trans (gd_n he)
        exact g_zretR S hr hlk hS rfl (by rw [hf] <;> rfl) dX4_reads_58
      | succ j ih =>
        intro n hn he locs ls hS hl
        refine lv_iload_n S.1 S.2.1 dX4_reads_20 rfl (lv_at hl 0 rfl) ?_
        refine lv_aload_n S.1 S.2.1 dX4_reads_21 rfl (lv_at hl 2 rfl) ?_
        refine g_aftR0 (st1 := [.int (nI (strLen.getD x 0)), .int (nI n)]) (g_Vs (As := []) (rest := [.int (nI n)]) S mi_J0_length_8abf5 qw644 (c_J0_length_8abf5 l D A w x hy0) hK hP hD hE hS hy0 rfl rfl hl.1 (Nat.le_of_ble_eq_true rfl) rfl rfl ⟨(Nat.le_of_ble_eq_true rfl), (Nat.le_of_ble_eq_true rfl)⟩ ⟨(Nat.le_of_ble_eq_true rfl), (Nat.le_of_ble_eq_true rfl)⟩ dX4_reads_22) hS rfl (fun locs hS => ?_)
        refine lv_icmp_ge (tgt := 57) S.1 S.2.1 dX4_reads_25 (by decide) (fun (c3 : (nI (strLen.getD x 0)) ≤ (nI n)) => absurd c3 (lp_in0 ((nI_clamp (by omega)).symm) hn)) (fun (c3 : ¬ (nI (strLen.getD x 0)) ≤ (nI n)) => ?_)
        refine lv_aload_n S.1 S.2.1 dX4_reads_28 rfl (lv_at hl 1 rfl) ?_
        refine g_get (v := .ref (α (k + 1))) S hK hP (hB0 0 _ rfl) rfl inX4 0 (by decide) qw81 rfl dX4_reads_29 ?_
        refine lv_aload_n S.1 S.2.1 dX4_reads_32 rfl (lv_at hl 1 rfl) ?_
        refine g_get (v := .int pst) S hK hP (hB0 0 _ rfl) rfl inX4 3 (by decide) qw86 rfl dX4_reads_33 ?_
        refine lv_iload_n S.1 S.2.1 dX4_reads_36 rfl (lv_at hl 0 rfl) ?_
        refine lv_iadd S.1 S.2.1 dX4_reads_37 ?_
        refine g_aftR0 (st1 := [.int (f_X1_at 800 tp tl (pst + (nI n)))]) (g_V (As := [.int (pst + (nI n))]) (rest := []) S mi_X1_at qw614 (c_X1_at l D A w α (k + 1) 800 tp tl (pst + (nI n)) (hB0.sub 1 rfl) (Nat.le_of_ble_eq_true rfl)) hK hP hD hE hS (hB0 1 _ rfl) rfl rfl rfl hl.1 (Nat.le_of_ble_eq_true rfl) rfl rfl ⟨(Nat.le_of_ble_eq_true rfl), (Nat.le_of_ble_eq_true rfl)⟩ ⟨(Nat.le_of_ble_eq_true rfl), (Nat.le_of_ble_eq_true rfl)⟩ dX4_reads_38) hS rfl (fun locs hS => ?_)
        refine lv_aload_n S.1 S.2.1 dX4_reads_41 rfl (lv_at hl 2 rfl) ?_
        refine lv_iload_n S.1 S.2.1 dX4_reads_42 rfl (lv_at hl 0 rfl) ?_
        refine g_aftR0 (st1 := [.int (sCh x (nI n)), .int (f_X1_at 800 tp tl (pst + (nI n)))]) (g_Vs (As := [.int (nI n)]) (rest := [.int (f_X1_at 800 tp tl (pst + (nI n)))]) S mi_J0_charAt_5068e qw645 (c_J0_charAt_5068e l D A w x hy0 (nI n) (vp_in_nI (lp_lt hn) (by omega))) hK hP hD hE hS hy0 rfl rfl hl.1 (Nat.le_of_ble_eq_true rfl) rfl rfl ⟨(Nat.le_of_ble_eq_true rfl), (Nat.le_of_ble_eq_true rfl)⟩ ⟨(Nat.le_of_ble_eq_true rfl), (Nat.le_of_ble_eq_true rfl)⟩ dX4_reads_43) hS rfl (fun locs hS => ?_)
        refine lv_icmp_eq (tgt := 51) S.1 S.2.1 dX4_reads_46 (by decide) (fun (c4 : (f_X1_at 800 tp tl (pst + (nI n))) = (sCh x (nI n))) => ?_) (fun (c4 : ¬ (f_X1_at 800 tp tl (pst + (nI n))) = (sCh x (nI n))) => ?_)
        · refine lv_iinc (v := (nI (n + 1))) (lv' := [(2, .int (nI (n + 1))), (0, .ref (α (k))), (1, .ref (D.2 200 x))]) S.1 S.2.1 dX4_reads_51 hl (k := 0) rfl ((nI_succ n).symm) (by decide) rfl (fun ls hl => ?_)
          refine lv_goto (tgt := 20) S.1 S.2.1 dX4_reads_54 (by decide) ?_
          have hE : (E_X4_reads_20 pst tp tl x n) = none := if_pos c4
          refine ih (n + 1) (lp_n hn) (fst_n he hE) _ _ hS ?_
          exact lv_sub hl [0, 1, 2] rfl
        · refine lv_iconst (v := 0) S.1 S.2.1 dX4_reads_49 (by decide) ?_
          have hE1 : (E_X4_reads_20 pst tp tl x n) = some false := if_neg c4
          have hE2 : fst_ (fun k => (E_X4_reads_20 pst tp tl x k)) (strLen.getD x 0) = some false := fst_s he hE1 (lp_lt hn)
          have hf : (f_X4_reads pst pe tp tl x) = false := (if_pos c1).trans (gd_s hE2)
          exact g_zretR S hr hlk hS rfl (by rw [hf] <;> rfl) dX4_reads_50
    exact lp20 (strLen.getD x 0) 0 (Nat.zero_add (strLen.getD x 0)) rfl _ _ hS (lv_sub hl [0, 1, 2] rfl)
  · refine lv_iconst (v := 0) S.1 S.2.1 dX4_reads_16 (by decide) ?_
    have hf : (f_X4_reads pst pe tp tl x) = false := if_neg c1
    exact g_zretR S hr hlk hS rfl (by rw [hf] <;> rfl) dX4_reads_17
