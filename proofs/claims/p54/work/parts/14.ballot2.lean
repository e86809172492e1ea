def L_X0_countAll_12 (blB : Nat → Int32) (blC : Nat → Int32) : Nat → Int32 × (Nat → Int32) := iter_ (fun n sn => (bif (f_X11_isBasket (blB (nI n).toNatClampNeg)) then ((sn.1 + 1), (f_X11_setCell 4 (sn.2) (blB (nI n).toNatClampNeg) ((f_X11_cell 4 (sn.2) (blB (nI n).toNatClampNeg) 0) + 1))) else (sn.1, sn.2))) (0, (f_X11_fillRow 4 blC 0))
def f_X0_countAll (blB : Nat → Int32) (blC : Nat → Int32) : Int32 × (Nat → Int32) := ((L_X0_countAll_12 blB blC 20).1, (L_X0_countAll_12 blB blC 20).2)
set_option maxHeartbeats 4000000 in
set_option maxRecDepth 100000 in
theorem c_X0_countAll (l : Launch) (D : va_G) (A : Nat → Prop) (w : va_W) (α : Nat → Nat) (k : Nat) (blB : Nat → Int32) (blC : Nat → Int32) (hB0 : Blk w k (cBallot D α k blB blC)) : Met l yX0_countAll (ws_ yX0_countAll cX0_countAll 4 (some .int)) ({ frames := 2, cells := 0, slots := 0, locals := 41 }) (gPre D A [.ref (α (k))] w) (gQ D A (some (.int (f_X0_countAll blB blC).1)) (fun w1 => Blk w1 k (cBallot D α k blB ((f_X0_countAll blB blC).2)) ∧ Same w w1 k 3)) 0 0 A := by
  refine g_met [(0, .ref (α (k)))] (plainFor_of_name (by decide)) (Nat.le_of_ble_eq_true rfl) rfl (fun pg en s mi ar below me co ls S hK hP hD hE hS hr hlk hnm hl => ?_)
  have hF : Same w w k 3 := Same.rf
  refine lv_iconst (v := 0) S.1 S.2.1 dX0_countAll_0 (by decide) ?_
  refine lv_istore_n (lv' := [(1, .int 0), (0, .ref (α (k)))]) S.1 S.2.1 dX0_countAll_1 rfl hl (by decide) rfl (fun ls hl => ?_)
  refine lv_aload_n S.1 S.2.1 dX0_countAll_2 rfl (lv_at hl 1 rfl) ?_
  refine g_get (v := .ref (α (k + 2))) S hK hP (hB0 0 _ rfl) rfl inX0 1 (by decide) qw246 rfl dX0_countAll_3 ?_
  refine lv_iconst (v := 0) S.1 S.2.1 dX0_countAll_6 (by decide) ?_
  refine g_aft0 (st1 := []) (g_SN (As := [.ref (α (k + 2)), .int 0]) (rest := []) S ms_X11_fillRow qn_RX0_44 (c_X11_fillRow l D A w α (k + 2) 4 blC 0 (hB0 2 _ rfl) (by first | assumption | exact vin_d (by decide) | exact vp_in_nI (by omega) (by decide) | decide | omega)) hK hP hD hE hS rfl rfl hl.1 (Nat.le_of_ble_eq_true rfl) rfl rfl ⟨(Nat.le_of_ble_eq_true rfl), (Nat.le_of_ble_eq_true rfl)⟩ ⟨(Nat.le_of_ble_eq_true rfl), (Nat.le_of_ble_eq_true rfl)⟩ dX0_countAll_7) hS rfl (fun w1 H locs hQ hP hD hS => ?_)
  have hw := hQ
  have hF := Same.set hF 2 hw (by decide)
  have hB0 : Blk w1 k (cBallot D α k blB (f_X11_fillRow 4 blC 0)) := hB0.set 2 hw (Nat.le_of_ble_eq_true rfl) rfl
  refine lv_iconst (v := 0) S.1 S.2.1 dX0_countAll_10 (by decide) ?_
  refine lv_istore_n (lv' := [(2, .int 0), (1, .int 0), (0, .ref (α (k)))]) S.1 S.2.1 dX0_countAll_11 rfl hl (by decide) rfl (fun ls hl => ?_)
  have lp12 : ∀ (j n : Nat), n + j = 20 → ∀ (wl : va_W) (H : Heap) (locs : List Loc) (ls : Array Slot), va_P D vwCl wl H → va_D A wl → va_S A s.heap H locs → Same w wl k 3 → Blk wl k (cBallot D α k blB ((L_X0_countAll_12 blB blC n).2)) → lv_has ls 4 [(2, .int (nI n)), (1, .int ((L_X0_countAll_12 blB blC n).1)), (0, .ref (α (k)))] → W pg l en ({ frames := 2, cells := 0, slots := 0, locals := 41 } : Room) s mi ar below me co H locs 0 0 (MQ below (gQ D A (some (.int (f_X0_countAll blB blC).1)) (fun w1 => Blk w1 k (cBallot D α k blB ((f_X0_countAll blB blC).2)) ∧ Same w w1 k 3)) ar s 0 0 A) (F0 mi 12 ls []) := by
    intro j
    induction j with
    | zero =>
      intro n hn wl H locs ls hP hD hS hF hB0 hl
      have hn : 20 = n := hn.symm
      subst hn
      refine lv_iload_n S.1 S.2.1 dX0_countAll_12 rfl (lv_at hl 0 rfl) ?_
      refine lv_aload_n S.1 S.2.1 dX0_countAll_13 rfl (lv_at hl 2 rfl) ?_
      refine g_get (v := .ref (α (k + 1))) S hK hP (hB0 0 _ rfl) rfl inX0 0 (by decide) qw245 rfl dX0_countAll_14 ?_
      refine g_alen (v := 20) S hK hP (hB0 1 _ rfl) 0 rfl rfl dX0_countAll_17 ?_
      refine lv_icmp_ge (tgt := 66) S.1 S.2.1 dX0_countAll_18 (by decide) (fun (c1 : 20 ≤ (nI 20)) => ?_) (fun (c1 : ¬ 20 ≤ (nI 20)) => absurd c1 (lp_out (s := 0) (by decide)))
      refine lv_iload_n S.1 S.2.1 dX0_countAll_66 rfl (lv_at hl 1 rfl) ?_
      have hf : (f_X0_countAll blB blC) = ((L_X0_countAll_12 blB blC 20).1, (L_X0_countAll_12 blB blC 20).2) := rfl
      exact g_iret S hr hlk hP hD hS (by rw [hf] <;> rfl) (⟨by rw [hf]; exact hB0, hF⟩) dX0_countAll_67
    | succ j ih =>
      intro n hn wl H locs ls hP hD hS hF hB0 hl
      refine lv_iload_n S.1 S.2.1 dX0_countAll_12 rfl (lv_at hl 0 rfl) ?_
      refine lv_aload_n S.1 S.2.1 dX0_countAll_13 rfl (lv_at hl 2 rfl) ?_
      refine g_get (v := .ref (α (k + 1))) S hK hP (hB0 0 _ rfl) rfl inX0 0 (by decide) qw245 rfl dX0_countAll_14 ?_
      refine g_alen (v := 20) S hK hP (hB0 1 _ rfl) 0 rfl rfl dX0_countAll_17 ?_
      refine lv_icmp_ge (tgt := 66) S.1 S.2.1 dX0_countAll_18 (by decide) (fun (c2 : 20 ≤ (nI n)) => absurd c2 (lp_in (s := 0) (by decide) hn)) (fun (c2 : ¬ 20 ≤ (nI n)) => ?_)
      refine lv_aload_n S.1 S.2.1 dX0_countAll_21 rfl (lv_at hl 2 rfl) ?_
      refine g_get (v := .ref (α (k + 1))) S hK hP (hB0 0 _ rfl) rfl inX0 0 (by decide) qw245 rfl dX0_countAll_22 ?_
      refine lv_iload_n S.1 S.2.1 dX0_countAll_25 rfl (lv_at hl 0 rfl) ?_
      refine g_iald S hK hP (hB0 1 _ rfl) (by first | assumption | exact vin_d (by decide) | exact vp_in_nI (by omega) (by decide) | decide) dX0_countAll_26 ?_
      refine lv_istore_n (lv' := [(3, .int (blB (nI n).toNatClampNeg)), (2, .int (nI n)), (1, .int ((L_X0_countAll_12 blB blC n).1)), (0, .ref (α (k)))]) S.1 S.2.1 dX0_countAll_27 rfl hl (by decide) rfl (fun ls hl => ?_)
      refine lv_iload_n S.1 S.2.1 dX0_countAll_28 rfl (lv_at hl 0 rfl) ?_
      refine g_aftR0 (st1 := [.int (b2i (f_X11_isBasket (blB (nI n).toNatClampNeg)))]) (g_SN (As := [.int (blB (nI n).toNatClampNeg)]) (rest := []) S ms_X11_isBasket qn_RX0_48 (c_X11_isBasket l D A wl α (blB (nI n).toNatClampNeg)) hK hP hD hE hS rfl rfl hl.1 (Nat.le_of_ble_eq_true rfl) rfl rfl ⟨(Nat.le_of_ble_eq_true rfl), (Nat.le_of_ble_eq_true rfl)⟩ ⟨(Nat.le_of_ble_eq_true rfl), (Nat.le_of_ble_eq_true rfl)⟩ dX0_countAll_29) hS rfl (fun locs hS => ?_)
      refine g_bifne (b := (f_X11_isBasket (blB (nI n).toNatClampNeg))) (tgt := 38) S dX0_countAll_32 (by decide) (fun (c3 : (f_X11_isBasket (blB (nI n).toNatClampNeg)) = true) => ?_) (fun (c3 : (f_X11_isBasket (blB (nI n).toNatClampNeg)) = false) => ?_)
      · refine lv_aload_n S.1 S.2.1 dX0_countAll_38 rfl (lv_at hl 3 rfl) ?_
        refine g_get (v := .ref (α (k + 2))) S hK hP (hB0 0 _ rfl) rfl inX0 1 (by decide) qw246 rfl dX0_countAll_39 ?_
        refine lv_iload_n S.1 S.2.1 dX0_countAll_42 rfl (lv_at hl 0 rfl) ?_
        refine lv_aload_n S.1 S.2.1 dX0_countAll_43 rfl (lv_at hl 3 rfl) ?_
        refine g_get (v := .ref (α (k + 2))) S hK hP (hB0 0 _ rfl) rfl inX0 1 (by decide) qw246 rfl dX0_countAll_44 ?_
        refine lv_iload_n S.1 S.2.1 dX0_countAll_47 rfl (lv_at hl 0 rfl) ?_
        refine lv_iconst (v := 0) S.1 S.2.1 dX0_countAll_48 (by decide) ?_
        refine g_aftR0 (st1 := [.int (f_X11_cell 4 ((L_X0_countAll_12 blB blC n).2) (blB (nI n).toNatClampNeg) 0), .int (blB (nI n).toNatClampNeg), .ref (α (k + 2))]) (g_SN (As := [.ref (α (k + 2)), .int (blB (nI n).toNatClampNeg), .int 0]) (rest := [.int (blB (nI n).toNatClampNeg), .ref (α (k + 2))]) S ms_X11_cell qn_RX0_40 (c_X11_cell l D A wl α (k + 2) 4 ((L_X0_countAll_12 blB blC n).2) (blB (nI n).toNatClampNeg) 0 (hB0 2 _ rfl) (by first | assumption | exact vin_d (by decide) | exact vp_in_nI (by omega) (by decide) | decide | omega)) hK hP hD hE hS rfl rfl hl.1 (Nat.le_of_ble_eq_true rfl) rfl rfl ⟨(Nat.le_of_ble_eq_true rfl), (Nat.le_of_ble_eq_true rfl)⟩ ⟨(Nat.le_of_ble_eq_true rfl), (Nat.le_of_ble_eq_true rfl)⟩ dX0_countAll_49) hS rfl (fun locs hS => ?_)
        refine lv_iconst (v := 1) S.1 S.2.1 dX0_countAll_52 (by decide) ?_
        refine lv_iadd S.1 S.2.1 dX0_countAll_53 ?_
        refine g_aft0 (st1 := []) (g_SN (As := [.ref (α (k + 2)), .int (blB (nI n).toNatClampNeg), .int ((f_X11_cell 4 ((L_X0_countAll_12 blB blC n).2) (blB (nI n).toNatClampNeg) 0) + 1)]) (rest := []) S ms_X11_setCell qn_RX0_26 (c_X11_setCell l D A wl α (k + 2) 4 ((L_X0_countAll_12 blB blC n).2) (blB (nI n).toNatClampNeg) ((f_X11_cell 4 ((L_X0_countAll_12 blB blC n).2) (blB (nI n).toNatClampNeg) 0) + 1) (hB0 2 _ rfl) (by first | assumption | exact vin_d (by decide) | exact vp_in_nI (by omega) (by decide) | decide | omega)) hK hP hD hE hS rfl rfl hl.1 (Nat.le_of_ble_eq_true rfl) rfl rfl ⟨(Nat.le_of_ble_eq_true rfl), (Nat.le_of_ble_eq_true rfl)⟩ ⟨(Nat.le_of_ble_eq_true rfl), (Nat.le_of_ble_eq_true rfl)⟩ dX0_countAll_54) hS rfl (fun w2 H locs hQ hP hD hS => ?_)
        have hw := hQ
        have hF := Same.set hF 2 hw (by decide)
        have hB0 : Blk w2 k (cBallot D α k blB (f_X11_setCell 4 ((L_X0_countAll_12 blB blC n).2) (blB (nI n).toNatClampNeg) ((f_X11_cell 4 ((L_X0_countAll_12 blB blC n).2) (blB (nI n).toNatClampNeg) 0) + 1))) := hB0.set 2 hw (Nat.le_of_ble_eq_true rfl) rfl
        refine lv_iinc (v := ((L_X0_countAll_12 blB blC n).1 + 1)) (lv' := [(1, .int ((L_X0_countAll_12 blB blC n).1 + 1)), (3, .int (blB (nI n).toNatClampNeg)), (2, .int (nI n)), (0, .ref (α (k)))]) S.1 S.2.1 dX0_countAll_57 hl (k := 2) rfl (rfl) (by decide) rfl (fun ls hl => ?_)
        refine lv_iinc (v := (nI (n + 1))) (lv' := [(2, .int (nI (n + 1))), (1, .int ((L_X0_countAll_12 blB blC n).1 + 1)), (3, .int (blB (nI n).toNatClampNeg)), (0, .ref (α (k)))]) S.1 S.2.1 dX0_countAll_60 hl (k := 2) rfl ((nI_succ n).symm) (by decide) rfl (fun ls hl => ?_)
        refine lv_goto (tgt := 12) S.1 S.2.1 dX0_countAll_63 (by decide) ?_
        have hL : (L_X0_countAll_12 blB blC (n + 1)) = (((L_X0_countAll_12 blB blC n).1 + 1), (f_X11_setCell 4 ((L_X0_countAll_12 blB blC n).2) (blB (nI n).toNatClampNeg) ((f_X11_cell 4 ((L_X0_countAll_12 blB blC n).2) (blB (nI n).toNatClampNeg) 0) + 1))) := (iter_s _ _ _).trans (cd_t c3)
        refine ih (n + 1) (by omega) _ _ _ _ hP hD hS hF ?_ ?_
        · rw [hL]; exact hB0
        · rw [hL]; exact lv_sub hl [0, 1, 3] rfl
      · refine lv_goto (tgt := 60) S.1 S.2.1 dX0_countAll_35 (by decide) ?_
        refine lv_iinc (v := (nI (n + 1))) (lv' := [(2, .int (nI (n + 1))), (3, .int (blB (nI n).toNatClampNeg)), (1, .int ((L_X0_countAll_12 blB blC n).1)), (0, .ref (α (k)))]) S.1 S.2.1 dX0_countAll_60 hl (k := 1) rfl ((nI_succ n).symm) (by decide) rfl (fun ls hl => ?_)
        refine lv_goto (tgt := 12) S.1 S.2.1 dX0_countAll_63 (by decide) ?_
        have hL : (L_X0_countAll_12 blB blC (n + 1)) = ((L_X0_countAll_12 blB blC n).1, (L_X0_countAll_12 blB blC n).2) := (iter_s _ _ _).trans (cd_f c3)
        refine ih (n + 1) (by omega) _ _ _ _ hP hD hS hF ?_ ?_
        · rw [hL]; exact hB0
        · rw [hL]; exact lv_sub hl [0, 2, 3] rfl
  have hL0 : (L_X0_countAll_12 blB blC 0) = (0, (f_X11_fillRow 4 blC 0)) := iter_z _ _
  exact lp12 20 0 (Nat.zero_add _) _ _ _ _ hP hD hS hF (by rw [hL0]; exact hB0) (by rw [hL0]; exact lv_sub hl [0, 1, 2] rfl)
def L_X0_result_15 (blB : Nat → Int32) (blC : Nat → Int32) : Nat → Int32 := iter_ (fun n sn => (if sn < ((f_X0_countAll blB blC).2 (nI n).toNatClampNeg) then ((f_X0_countAll blB blC).2 (nI n).toNatClampNeg) else sn)) 1
def E_X0_result_43 (blB : Nat → Int32) (blC : Nat → Int32) (n : Nat) : Option (Int32 × (Nat → Int32)) := (if (f_X11_cell 4 ((f_X0_countAll blB blC).2) (blB (nI n).toNatClampNeg) 0) = (L_X0_result_15 blB blC 4) then some ((blB (nI n).toNatClampNeg), (f_X0_countAll blB blC).2) else none)
def f_X0_result (blB : Nat → Int32) (blC : Nat → Int32) (need : Int32) : Int32 × (Nat → Int32) := (if need ≤ (f_X0_countAll blB blC).1 then ((fst_ (fun k => (E_X0_result_43 blB blC k)) 20).getD ((-2), (f_X0_countAll blB blC).2)) else ((-2), (f_X0_countAll blB blC).2))
set_option maxHeartbeats 4000000 in
set_option maxRecDepth 100000 in
theorem c_X0_result (l : Launch) (D : va_G) (A : Nat → Prop) (w : va_W) (α : Nat → Nat) (k : Nat) (blB : Nat → Int32) (blC : Nat → Int32) (need : Int32) (hB0 : Blk w k (cBallot D α k blB blC)) : Met l yX0_result (ws_ yX0_result cX0_result 4 (some .int)) ({ frames := 3, cells := 0, slots := 0, locals := 64 }) (gPre D A [.ref (α (k)), .int need] w) (gQ D A (some (.int (f_X0_result blB blC need).1)) (fun w1 => Blk w1 k (cBallot D α k blB ((f_X0_result blB blC need).2)) ∧ Same w w1 k 3)) 0 0 A := by
  refine g_met [(0, .ref (α (k))), (1, .int need)] (plainFor_of_name (by decide)) (Nat.le_of_ble_eq_true rfl) rfl (fun pg en s mi ar below me co ls S hK hP hD hE hS hr hlk hnm hl => ?_)
  have hF : Same w w k 3 := Same.rf
  refine lv_aload_n S.1 S.2.1 dX0_result_0 rfl (lv_at hl 0 rfl) ?_
  refine g_aft0 (st1 := [.int ((f_X0_countAll blB blC).1)]) (g_V (As := []) (rest := []) S mi_X0_countAll qw801 (c_X0_countAll l D A w α (k) blB blC hB0) hK hP hD hE hS (hB0 0 _ rfl) rfl rfl rfl hl.1 (Nat.le_of_ble_eq_true rfl) rfl rfl ⟨(Nat.le_of_ble_eq_true rfl), (Nat.le_of_ble_eq_true rfl)⟩ ⟨(Nat.le_of_ble_eq_true rfl), (Nat.le_of_ble_eq_true rfl)⟩ dX0_result_1) hS rfl (fun w1 H locs hQ hP hD hS => ?_)
  have hF := hF.trans hQ.2
  have hB0 : Blk w1 k (cBallot D α k blB ((f_X0_countAll blB blC).2)) := hQ.1
  refine lv_iload_n S.1 S.2.1 dX0_result_4 rfl (lv_at hl 1 rfl) ?_
  refine lv_icmp_ge (tgt := 11) S.1 S.2.1 dX0_result_5 (by decide) (fun (c1 : need ≤ (f_X0_countAll blB blC).1) => ?_) (fun (c1 : ¬ need ≤ (f_X0_countAll blB blC).1) => ?_)
  · refine lv_iconst (v := 1) S.1 S.2.1 dX0_result_11 (by decide) ?_
    refine lv_istore_n (lv' := [(2, .int 1), (0, .ref (α (k))), (1, .int need)]) S.1 S.2.1 dX0_result_12 rfl hl (by decide) rfl (fun ls hl => ?_)
    refine lv_iconst (v := 0) S.1 S.2.1 dX0_result_13 (by decide) ?_
    refine lv_istore_n (lv' := [(3, .int 0), (2, .int 1), (0, .ref (α (k))), (1, .int need)]) S.1 S.2.1 dX0_result_14 rfl hl (by decide) rfl (fun ls hl => ?_)
    have lp15 : ∀ (j n : Nat), n + j = 4 → ∀ (locs : List Loc) (ls : Array Slot), va_S A s.heap H locs → lv_has ls 4 [(3, .int (nI n)), (2, .int (L_X0_result_15 blB blC n)), (0, .ref (α (k))), (1, .int need)] → W pg l en ({ frames := 3, cells := 0, slots := 0, locals := 64 } : Room) s mi ar below me co H locs 0 0 (MQ below (gQ D A (some (.int (f_X0_result blB blC need).1)) (fun w1 => Blk w1 k (cBallot D α k blB ((f_X0_result blB blC need).2)) ∧ Same w w1 k 3)) ar s 0 0 A) (F0 mi 15 ls []) := by
      intro j
      induction j with
      | zero =>
        intro n hn locs ls hS hl
        have hn : 4 = n := hn.symm
        subst hn
        refine lv_iload_n S.1 S.2.1 dX0_result_15 rfl (lv_at hl 0 rfl) ?_
        refine lv_aload_n S.1 S.2.1 dX0_result_16 rfl (lv_at hl 2 rfl) ?_
        refine g_get (v := .ref (α (k + 2))) S hK hP (hB0 0 _ rfl) rfl inX0 1 (by decide) qw246 rfl dX0_result_17 ?_
        refine g_alen (v := 4) S hK hP (hB0 2 _ rfl) 0 rfl rfl dX0_result_20 ?_
        refine lv_icmp_ge (tgt := 41) S.1 S.2.1 dX0_result_21 (by decide) (fun (c2 : 4 ≤ (nI 4)) => ?_) (fun (c2 : ¬ 4 ≤ (nI 4)) => absurd c2 (lp_out (s := 0) (by decide)))
        refine lv_iconst (v := 0) S.1 S.2.1 dX0_result_41 (by decide) ?_
        refine lv_istore_n (lv' := [(3, .int 0), (2, .int (L_X0_result_15 blB blC 4)), (0, .ref (α (k))), (1, .int need)]) S.1 S.2.1 dX0_result_42 rfl hl (by decide) rfl (fun ls hl => ?_)
        have lp43 : ∀ (j n : Nat), n + j = 20 → fst_ (fun k => (E_X0_result_43 blB blC k)) n = none → ∀ (locs : List Loc) (ls : Array Slot), va_S A s.heap H locs → lv_has ls 4 [(3, .int (nI n)), (2, .int (L_X0_result_15 blB blC 4)), (0, .ref (α (k))), (1, .int need)] → W pg l en ({ frames := 3, cells := 0, slots := 0, locals := 64 } : Room) s mi ar below me co H locs 0 0 (MQ below (gQ D A (some (.int (f_X0_result blB blC need).1)) (fun w1 => Blk w1 k (cBallot D α k blB ((f_X0_result blB blC need).2)) ∧ Same w w1 k 3)) ar s 0 0 A) (F0 mi 43 ls []) := by
          intro j
          induction j with
          | zero =>
            intro n hn he locs ls hS hl
            have hn : 20 = n := hn.symm
            subst hn
            refine lv_iload_n S.1 S.2.1 dX0_result_43 rfl (lv_at hl 0 rfl) ?_
            refine lv_aload_n S.1 S.2.1 dX0_result_44 rfl (lv_at hl 2 rfl) ?_
            refine g_get (v := .ref (α (k + 1))) S hK hP (hB0 0 _ rfl) rfl inX0 0 (by decide) qw245 rfl dX0_result_45 ?_
            refine g_alen (v := 20) S hK hP (hB0 1 _ rfl) 0 rfl rfl dX0_result_48 ?_
            refine lv_icmp_ge (tgt := 83) S.1 S.2.1 dX0_result_49 (by decide) (fun (c3 : 20 ≤ (nI 20)) => ?_) (fun (c3 : ¬ 20 ≤ (nI 20)) => absurd c3 (lp_out (s := 0) (by decide)))
            refine lv_bipush (v := (-2)) S.1 S.2.1 dX0_result_83 (by decide) ?_
            have hf : (f_X0_result blB blC need) = ((-2), (f_X0_countAll blB blC).2) := (if_pos c1).trans (gd_n he)
            exact g_iret S hr hlk hP hD hS (by rw [hf] <;> rfl) (⟨by rw [hf]; exact hB0, hF⟩) dX0_result_85
          | succ j ih =>
            intro n hn he locs ls hS hl
            refine lv_iload_n S.1 S.2.1 dX0_result_43 rfl (lv_at hl 0 rfl) ?_
            refine lv_aload_n S.1 S.2.1 dX0_result_44 rfl (lv_at hl 2 rfl) ?_
            refine g_get (v := .ref (α (k + 1))) S hK hP (hB0 0 _ rfl) rfl inX0 0 (by decide) qw245 rfl dX0_result_45 ?_
            refine g_alen (v := 20) S hK hP (hB0 1 _ rfl) 0 rfl rfl dX0_result_48 ?_
            refine lv_icmp_ge (tgt := 83) S.1 S.2.1 dX0_result_49 (by decide) (fun (c4 : 20 ≤ (nI n)) => absurd c4 (lp_in (s := 0) (by decide) hn)) (fun (c4 : ¬ 20 ≤ (nI n)) => ?_)
            refine lv_aload_n S.1 S.2.1 dX0_result_52 rfl (lv_at hl 2 rfl) ?_
            refine g_get (v := .ref (α (k + 2))) S hK hP (hB0 0 _ rfl) rfl inX0 1 (by decide) qw246 rfl dX0_result_53 ?_
            refine lv_aload_n S.1 S.2.1 dX0_result_56 rfl (lv_at hl 2 rfl) ?_
            refine g_get (v := .ref (α (k + 1))) S hK hP (hB0 0 _ rfl) rfl inX0 0 (by decide) qw245 rfl dX0_result_57 ?_
            refine lv_iload_n S.1 S.2.1 dX0_result_60 rfl (lv_at hl 0 rfl) ?_
            refine g_iald S hK hP (hB0 1 _ rfl) (by first | assumption | exact vin_d (by decide) | exact vp_in_nI (by omega) (by decide) | decide) dX0_result_61 ?_
            refine lv_iconst (v := 0) S.1 S.2.1 dX0_result_62 (by decide) ?_
            refine g_aftR0 (st1 := [.int (f_X11_cell 4 ((f_X0_countAll blB blC).2) (blB (nI n).toNatClampNeg) 0)]) (g_SN (As := [.ref (α (k + 2)), .int (blB (nI n).toNatClampNeg), .int 0]) (rest := []) S ms_X11_cell qn_RX0_40 (c_X11_cell l D A w1 α (k + 2) 4 ((f_X0_countAll blB blC).2) (blB (nI n).toNatClampNeg) 0 (hB0 2 _ rfl) (by first | assumption | exact vin_d (by decide) | exact vp_in_nI (by omega) (by decide) | decide | omega)) hK hP hD hE hS rfl rfl hl.1 (Nat.le_of_ble_eq_true rfl) rfl rfl ⟨(Nat.le_of_ble_eq_true rfl), (Nat.le_of_ble_eq_true rfl)⟩ ⟨(Nat.le_of_ble_eq_true rfl), (Nat.le_of_ble_eq_true rfl)⟩ dX0_result_63) hS rfl (fun locs hS => ?_)
            refine lv_iload_n S.1 S.2.1 dX0_result_66 rfl (lv_at hl 1 rfl) ?_
            refine lv_icmp_ne (tgt := 77) S.1 S.2.1 dX0_result_67 (by decide) (fun (c5 : ¬ (f_X11_cell 4 ((f_X0_countAll blB blC).2) (blB (nI n).toNatClampNeg) 0) = (L_X0_result_15 blB blC 4)) => ?_) (fun (c5 : (f_X11_cell 4 ((f_X0_countAll blB blC).2) (blB (nI n).toNatClampNeg) 0) = (L_X0_result_15 blB blC 4)) => ?_)
            · refine lv_iinc (v := (nI (n + 1))) (lv' := [(3, .int (nI (n + 1))), (2, .int (L_X0_result_15 blB blC 4)), (0, .ref (α (k))), (1, .int need)]) S.1 S.2.1 dX0_result_77 hl (k := 0) rfl ((nI_succ n).symm) (by decide) rfl (fun ls hl => ?_)
              refine lv_goto (tgt := 43) S.1 S.2.1 dX0_result_80 (by decide) ?_
              have hE : (E_X0_result_43 blB blC n) = none := if_neg c5
              refine ih (n + 1) (by omega) (fst_n he hE) _ _ hS ?_
              exact lv_sub hl [0, 1, 2, 3] rfl
            · refine lv_aload_n S.1 S.2.1 dX0_result_70 rfl (lv_at hl 2 rfl) ?_
              refine g_get (v := .ref (α (k + 1))) S hK hP (hB0 0 _ rfl) rfl inX0 0 (by decide) qw245 rfl dX0_result_71 ?_
              refine lv_iload_n S.1 S.2.1 dX0_result_74 rfl (lv_at hl 0 rfl) ?_
              refine g_iald S hK hP (hB0 1 _ rfl) (by first | assumption | exact vin_d (by decide) | exact vp_in_nI (by omega) (by decide) | decide) dX0_result_75 ?_
              have hE1 : (E_X0_result_43 blB blC n) = some ((blB (nI n).toNatClampNeg), (f_X0_countAll blB blC).2) := if_pos c5
              have hE2 : fst_ (fun k => (E_X0_result_43 blB blC k)) 20 = some ((blB (nI n).toNatClampNeg), (f_X0_countAll blB blC).2) := fst_s he hE1 (by omega)
              have hf : (f_X0_result blB blC need) = ((blB (nI n).toNatClampNeg), (f_X0_countAll blB blC).2) := (if_pos c1).trans (gd_s hE2)
              exact g_iret S hr hlk hP hD hS (by rw [hf] <;> rfl) (⟨by rw [hf]; exact hB0, hF⟩) dX0_result_76
        exact lp43 20 0 (Nat.zero_add _) rfl _ _ hS (lv_sub hl [0, 1, 2, 3] rfl)
      | succ j ih =>
        intro n hn locs ls hS hl
        refine lv_iload_n S.1 S.2.1 dX0_result_15 rfl (lv_at hl 0 rfl) ?_
        refine lv_aload_n S.1 S.2.1 dX0_result_16 rfl (lv_at hl 2 rfl) ?_
        refine g_get (v := .ref (α (k + 2))) S hK hP (hB0 0 _ rfl) rfl inX0 1 (by decide) qw246 rfl dX0_result_17 ?_
        refine g_alen (v := 4) S hK hP (hB0 2 _ rfl) 0 rfl rfl dX0_result_20 ?_
        refine lv_icmp_ge (tgt := 41) S.1 S.2.1 dX0_result_21 (by decide) (fun (c6 : 4 ≤ (nI n)) => absurd c6 (lp_in (s := 0) (by decide) hn)) (fun (c6 : ¬ 4 ≤ (nI n)) => ?_)
        refine lv_iload_n S.1 S.2.1 dX0_result_24 rfl (lv_at hl 1 rfl) ?_
        refine lv_aload_n S.1 S.2.1 dX0_result_25 rfl (lv_at hl 2 rfl) ?_
        refine g_get (v := .ref (α (k + 2))) S hK hP (hB0 0 _ rfl) rfl inX0 1 (by decide) qw246 rfl dX0_result_26 ?_
        refine lv_iload_n S.1 S.2.1 dX0_result_29 rfl (lv_at hl 0 rfl) ?_
        refine g_iald S hK hP (hB0 2 _ rfl) (by first | assumption | exact vin_d (by decide) | exact vp_in_nI (by omega) (by decide) | decide) dX0_result_30 ?_
        refine va_mmax S.1 S.2.1 (S.2.2.1.trans hl.1.symm) S.2.2.2.1 (S.2.2.2.2 _ qw811) (S.2.2.2.2 _ qw45) (S.2.2.2.2 _ qw4) (S.2.2.2.2 _ qw46) (Nat.le_of_ble_eq_true rfl) (Nat.le_of_ble_eq_true rfl) (Nat.le_of_ble_eq_true rfl) (Nat.le_of_ble_eq_true rfl) dX0_result_31 ?_
        refine lv_istore_n (lv' := [(2, .int (if (L_X0_result_15 blB blC n) < ((f_X0_countAll blB blC).2 (nI n).toNatClampNeg) then ((f_X0_countAll blB blC).2 (nI n).toNatClampNeg) else (L_X0_result_15 blB blC n))), (3, .int (nI n)), (0, .ref (α (k))), (1, .int need)]) S.1 S.2.1 dX0_result_34 rfl hl (by decide) rfl (fun ls hl => ?_)
        refine lv_iinc (v := (nI (n + 1))) (lv' := [(3, .int (nI (n + 1))), (2, .int (if (L_X0_result_15 blB blC n) < ((f_X0_countAll blB blC).2 (nI n).toNatClampNeg) then ((f_X0_countAll blB blC).2 (nI n).toNatClampNeg) else (L_X0_result_15 blB blC n))), (0, .ref (α (k))), (1, .int need)]) S.1 S.2.1 dX0_result_35 hl (k := 1) rfl ((nI_succ n).symm) (by decide) rfl (fun ls hl => ?_)
        refine lv_goto (tgt := 15) S.1 S.2.1 dX0_result_38 (by decide) ?_
        have hL : (L_X0_result_15 blB blC (n + 1)) = (if (L_X0_result_15 blB blC n) < ((f_X0_countAll blB blC).2 (nI n).toNatClampNeg) then ((f_X0_countAll blB blC).2 (nI n).toNatClampNeg) else (L_X0_result_15 blB blC n)) := (iter_s _ _ _).trans (rfl)
        refine ih (n + 1) (by omega) _ _ hS ?_
        rw [hL]; exact lv_sub hl [0, 1, 2, 3] rfl
    have hL0 : (L_X0_result_15 blB blC 0) = 1 := iter_z _ _
    exact lp15 4 0 (Nat.zero_add _) _ _ hS (by rw [hL0]; exact lv_sub hl [0, 1, 2, 3] rfl)
  · refine lv_bipush (v := (-2)) S.1 S.2.1 dX0_result_8 (by decide) ?_
    have hf : (f_X0_result blB blC need) = ((-2), (f_X0_countAll blB blC).2) := if_neg c1
    exact g_iret S hr hlk hP hD hS (by rw [hf] <;> rfl) (⟨by rw [hf]; exact hB0, hF⟩) dX0_result_10
