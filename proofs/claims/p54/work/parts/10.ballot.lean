def L_X0_takeFrom_2 (blB : Nat → Int32) (plc : Nat → Int32) (bsk : Nat → Int32) : Nat → (Nat → Int32) := iter_ (fun n sn => (if (f_X9_placeOf plc (nI n)) = 2 then (upd sn (nI n).toNatClampNeg (f_X9_basketOf bsk (nI n))) else (upd sn (nI n).toNatClampNeg (-2)))) blB
def f_X0_takeFrom (blB : Nat → Int32) (plc : Nat → Int32) (bsk : Nat → Int32) : (Nat → Int32) := (L_X0_takeFrom_2 blB plc bsk 20)
set_option maxHeartbeats 4000000 in
set_option maxRecDepth 100000 in
theorem c_X0_takeFrom (l : Launch) (D : va_G) (A : Nat → Prop) (w : va_W) (α : Nat → Nat) (k : Nat) (blB : Nat → Int32) (blC : Nat → Int32) (k2 : Nat) (plc : Nat → Int32) (car : Nat → Int32) (bnd : Nat → Int32) (bsk : Nat → Int32) (dyL : Nat → Int32) (rsn : Nat → Int32) (hB0 : Blk w k (cBallot D α k blB blC)) (hB1 : Blk w k2 (cSticks D α k2 plc car bnd bsk dyL rsn)) (hd1 : k2 + 7 ≤ k ∨ k + 3 ≤ k2) : Met l yX0_takeFrom (ws_ yX0_takeFrom cX0_takeFrom 3 none) ({ frames := 2, cells := 0, slots := 0, locals := 43 }) (gPre D A [.ref (α (k)), .ref (α (k2))] w) (gQ D A none (fun w1 => Blk w1 k (cBallot D α k (f_X0_takeFrom blB plc bsk) blC) ∧ Same w w1 k 3)) 0 0 A := by
  refine g_met [(0, .ref (α (k))), (1, .ref (α (k2)))] (plainFor_of_name (by decide)) (Nat.le_of_ble_eq_true rfl) rfl (fun pg en s mi ar below me co ls S hK hP hD hE hS hr hlk hnm hl => ?_)
  have hF : Same w w k 3 := Same.rf
  refine lv_iconst (v := 0) S.1 S.2.1 dX0_takeFrom_0 (by decide) ?_
  refine lv_istore_n (lv' := [(2, .int 0), (0, .ref (α (k))), (1, .ref (α (k2)))]) S.1 S.2.1 dX0_takeFrom_1 rfl hl (by decide) rfl (fun ls hl => ?_)
  have lp2 : ∀ (j n : Nat), n + j = 20 → ∀ (wl : va_W) (H : Heap) (locs : List Loc) (ls : Array Slot), va_P D vwCl wl H → va_D A wl → va_S A s.heap H locs → Same w wl k 3 → Blk wl k (cBallot D α k (L_X0_takeFrom_2 blB plc bsk n) blC) → lv_has ls 3 [(2, .int (nI n)), (0, .ref (α (k))), (1, .ref (α (k2)))] → W pg l en ({ frames := 2, cells := 0, slots := 0, locals := 43 } : Room) s mi ar below me co H locs 0 0 (MQ below (gQ D A none (fun w1 => Blk w1 k (cBallot D α k (f_X0_takeFrom blB plc bsk) blC) ∧ Same w w1 k 3)) ar s 0 0 A) (F0 mi 2 ls []) := by
    intro j
    induction j with
    | zero =>
      intro n hn wl H locs ls hP hD hS hF hB0 hl
      have hn : 20 = n := hn.symm
      subst hn
      refine lv_iload_n S.1 S.2.1 dX0_takeFrom_2 rfl (lv_at hl 0 rfl) ?_
      refine lv_aload_n S.1 S.2.1 dX0_takeFrom_3 rfl (lv_at hl 1 rfl) ?_
      refine g_get (v := .ref (α (k + 1))) S hK hP (hB0 0 _ rfl) rfl inX0 0 (by decide) qw245 rfl dX0_takeFrom_4 ?_
      refine g_alen (v := 20) S hK hP (hB0 1 _ rfl) 0 rfl rfl dX0_takeFrom_7 ?_
      refine lv_icmp_ge (tgt := 42) S.1 S.2.1 dX0_takeFrom_8 (by decide) (fun (c1 : 20 ≤ (nI 20)) => ?_) (fun (c1 : ¬ 20 ≤ (nI 20)) => absurd c1 (lp_out (s := 0) (by decide)))
      have hf : (f_X0_takeFrom blB plc bsk) = (L_X0_takeFrom_2 blB plc bsk 20) := rfl
      exact g_vret S hr hlk hP hD hS (rfl) (⟨by rw [hf]; exact hB0, hF⟩) dX0_takeFrom_42
    | succ j ih =>
      intro n hn wl H locs ls hP hD hS hF hB0 hl
      refine lv_iload_n S.1 S.2.1 dX0_takeFrom_2 rfl (lv_at hl 0 rfl) ?_
      refine lv_aload_n S.1 S.2.1 dX0_takeFrom_3 rfl (lv_at hl 1 rfl) ?_
      refine g_get (v := .ref (α (k + 1))) S hK hP (hB0 0 _ rfl) rfl inX0 0 (by decide) qw245 rfl dX0_takeFrom_4 ?_
      refine g_alen (v := 20) S hK hP (hB0 1 _ rfl) 0 rfl rfl dX0_takeFrom_7 ?_
      refine lv_icmp_ge (tgt := 42) S.1 S.2.1 dX0_takeFrom_8 (by decide) (fun (c2 : 20 ≤ (nI n)) => absurd c2 (lp_in (s := 0) (by decide) hn)) (fun (c2 : ¬ 20 ≤ (nI n)) => ?_)
      refine lv_aload_n S.1 S.2.1 dX0_takeFrom_11 rfl (lv_at hl 1 rfl) ?_
      refine g_get (v := .ref (α (k + 1))) S hK hP (hB0 0 _ rfl) rfl inX0 0 (by decide) qw245 rfl dX0_takeFrom_12 ?_
      refine lv_iload_n S.1 S.2.1 dX0_takeFrom_15 rfl (lv_at hl 0 rfl) ?_
      refine lv_aload_n S.1 S.2.1 dX0_takeFrom_16 rfl (lv_at hl 2 rfl) ?_
      refine lv_iload_n S.1 S.2.1 dX0_takeFrom_17 rfl (lv_at hl 0 rfl) ?_
      refine g_aftR0 (st1 := [.int (f_X9_placeOf plc (nI n)), .int (nI n), .ref (α (k + 1))]) (g_V (As := [.int (nI n)]) (rest := [.int (nI n), .ref (α (k + 1))]) S mi_X9_placeOf qw792 (c_X9_placeOf l D A wl α (k2) plc car bnd bsk dyL rsn (nI n) (hB1.other hF hd1)) hK hP hD hE hS ((hB1.other hF hd1) 0 _ rfl) rfl rfl rfl hl.1 (Nat.le_of_ble_eq_true rfl) rfl rfl ⟨(Nat.le_of_ble_eq_true rfl), (Nat.le_of_ble_eq_true rfl)⟩ ⟨(Nat.le_of_ble_eq_true rfl), (Nat.le_of_ble_eq_true rfl)⟩ dX0_takeFrom_18) hS rfl (fun locs hS => ?_)
      refine lv_iconst (v := 2) S.1 S.2.1 dX0_takeFrom_21 (by decide) ?_
      refine lv_icmp_ne (tgt := 33) S.1 S.2.1 dX0_takeFrom_22 (by decide) (fun (c3 : ¬ (f_X9_placeOf plc (nI n)) = 2) => ?_) (fun (c3 : (f_X9_placeOf plc (nI n)) = 2) => ?_)
      · refine lv_bipush (v := (-2)) S.1 S.2.1 dX0_takeFrom_33 (by decide) ?_
        refine g_iast S hK hP hD hS (hB0 1 _ rfl) (by first | assumption | exact vin_d (by decide) | exact vp_in_nI (by omega) (by decide) | decide) dX0_takeFrom_35 (fun w1 H locs hw hP hD hS => ?_)
        have hF := Same.set hF 1 hw (by decide)
        have hB0 : Blk w1 k (cBallot D α k (upd (L_X0_takeFrom_2 blB plc bsk n) (nI n).toNatClampNeg (-2)) blC) := hB0.set 1 hw (Nat.le_of_ble_eq_true rfl) rfl
        refine lv_iinc (v := (nI (n + 1))) (lv' := [(2, .int (nI (n + 1))), (0, .ref (α (k))), (1, .ref (α (k2)))]) S.1 S.2.1 dX0_takeFrom_36 hl (k := 0) rfl ((nI_succ n).symm) (by decide) rfl (fun ls hl => ?_)
        refine lv_goto (tgt := 2) S.1 S.2.1 dX0_takeFrom_39 (by decide) ?_
        have hL : (L_X0_takeFrom_2 blB plc bsk (n + 1)) = (upd (L_X0_takeFrom_2 blB plc bsk n) (nI n).toNatClampNeg (-2)) := (iter_s _ _ _).trans (if_neg c3)
        refine ih (n + 1) (by omega) _ _ _ _ hP hD hS hF ?_ ?_
        · rw [hL]; exact hB0
        · exact lv_sub hl [0, 1, 2] rfl
      · refine lv_aload_n S.1 S.2.1 dX0_takeFrom_25 rfl (lv_at hl 2 rfl) ?_
        refine lv_iload_n S.1 S.2.1 dX0_takeFrom_26 rfl (lv_at hl 0 rfl) ?_
        refine g_aftR0 (st1 := [.int (f_X9_basketOf bsk (nI n)), .int (nI n), .ref (α (k + 1))]) (g_V (As := [.int (nI n)]) (rest := [.int (nI n), .ref (α (k + 1))]) S mi_X9_basketOf qw793 (c_X9_basketOf l D A wl α (k2) plc car bnd bsk dyL rsn (nI n) (hB1.other hF hd1)) hK hP hD hE hS ((hB1.other hF hd1) 0 _ rfl) rfl rfl rfl hl.1 (Nat.le_of_ble_eq_true rfl) rfl rfl ⟨(Nat.le_of_ble_eq_true rfl), (Nat.le_of_ble_eq_true rfl)⟩ ⟨(Nat.le_of_ble_eq_true rfl), (Nat.le_of_ble_eq_true rfl)⟩ dX0_takeFrom_27) hS rfl (fun locs hS => ?_)
        refine lv_goto (tgt := 35) S.1 S.2.1 dX0_takeFrom_30 (by decide) ?_
        refine g_iast S hK hP hD hS (hB0 1 _ rfl) (by first | assumption | exact vin_d (by decide) | exact vp_in_nI (by omega) (by decide) | decide) dX0_takeFrom_35 (fun w2 H locs hw hP hD hS => ?_)
        have hF := Same.set hF 1 hw (by decide)
        have hB0 : Blk w2 k (cBallot D α k (upd (L_X0_takeFrom_2 blB plc bsk n) (nI n).toNatClampNeg (f_X9_basketOf bsk (nI n))) blC) := hB0.set 1 hw (Nat.le_of_ble_eq_true rfl) rfl
        refine lv_iinc (v := (nI (n + 1))) (lv' := [(2, .int (nI (n + 1))), (0, .ref (α (k))), (1, .ref (α (k2)))]) S.1 S.2.1 dX0_takeFrom_36 hl (k := 0) rfl ((nI_succ n).symm) (by decide) rfl (fun ls hl => ?_)
        refine lv_goto (tgt := 2) S.1 S.2.1 dX0_takeFrom_39 (by decide) ?_
        have hL : (L_X0_takeFrom_2 blB plc bsk (n + 1)) = (upd (L_X0_takeFrom_2 blB plc bsk n) (nI n).toNatClampNeg (f_X9_basketOf bsk (nI n))) := (iter_s _ _ _).trans (if_pos c3)
        refine ih (n + 1) (by omega) _ _ _ _ hP hD hS hF ?_ ?_
        · rw [hL]; exact hB0
        · exact lv_sub hl [0, 1, 2] rfl
  have hL0 : (L_X0_takeFrom_2 blB plc bsk 0) = blB := iter_z _ _
  exact lp2 20 0 (Nat.zero_add _) _ _ _ _ hP hD hS hF (by rw [hL0]; exact hB0) (lv_sub hl [0, 1, 2] rfl)
def f_X0_put (blB : Nat → Int32) (o : Int32) (b : Int32) : (Nat → Int32) := (f_X11_setCell 20 blB o b)
set_option maxHeartbeats 4000000 in
set_option maxRecDepth 100000 in
theorem c_X0_put (l : Launch) (D : va_G) (A : Nat → Prop) (w : va_W) (α : Nat → Nat) (k : Nat) (blB : Nat → Int32) (blC : Nat → Int32) (o : Int32) (b : Int32) (hB0 : Blk w k (cBallot D α k blB blC)) : Met l yX0_put (ws_ yX0_put cX0_put 3 none) ({ frames := 1, cells := 0, slots := 0, locals := 22 }) (gPre D A [.ref (α (k)), .int o, .int b] w) (gQ D A none (fun w1 => Blk w1 k (cBallot D α k (f_X0_put blB o b) blC) ∧ Same w w1 k 3)) 0 0 A := by
  refine g_met [(0, .ref (α (k))), (1, .int o), (2, .int b)] (plainFor_of_name (by decide)) (Nat.le_of_ble_eq_true rfl) rfl (fun pg en s mi ar below me co ls S hK hP hD hE hS hr hlk hnm hl => ?_)
  have hF : Same w w k 3 := Same.rf
  refine lv_aload_n S.1 S.2.1 dX0_put_0 rfl (lv_at hl 0 rfl) ?_
  refine g_get (v := .ref (α (k + 1))) S hK hP (hB0 0 _ rfl) rfl inX0 0 (by decide) qw245 rfl dX0_put_1 ?_
  refine lv_iload_n S.1 S.2.1 dX0_put_4 rfl (lv_at hl 1 rfl) ?_
  refine lv_iload_n S.1 S.2.1 dX0_put_5 rfl (lv_at hl 2 rfl) ?_
  refine g_aft0 (st1 := []) (g_SN (As := [.ref (α (k + 1)), .int o, .int b]) (rest := []) S ms_X11_setCell qn_RX0_26 (c_X11_setCell l D A w α (k + 1) 20 blB o b (hB0 1 _ rfl) (by first | assumption | exact vin_d (by decide) | exact vp_in_nI (by omega) (by decide) | decide | omega)) hK hP hD hE hS rfl rfl hl.1 (Nat.le_of_ble_eq_true rfl) rfl rfl ⟨(Nat.le_of_ble_eq_true rfl), (Nat.le_of_ble_eq_true rfl)⟩ ⟨(Nat.le_of_ble_eq_true rfl), (Nat.le_of_ble_eq_true rfl)⟩ dX0_put_6) hS rfl (fun w1 H locs hQ hP hD hS => ?_)
  have hw := hQ
  have hF := Same.set hF 1 hw (by decide)
  have hB0 : Blk w1 k (cBallot D α k (f_X11_setCell 20 blB o b) blC) := hB0.set 1 hw (Nat.le_of_ble_eq_true rfl) rfl
  have hf : (f_X0_put blB o b) = (f_X11_setCell 20 blB o b) := rfl
  exact g_vret S hr hlk hP hD hS (rfl) (⟨by rw [hf]; exact hB0, hF⟩) dX0_put_9
def f_X0_leaveOut (blB : Nat → Int32) (o : Int32) : (Nat → Int32) := (f_X11_setCell 20 blB o (-2))
set_option maxHeartbeats 4000000 in
set_option maxRecDepth 100000 in
theorem c_X0_leaveOut (l : Launch) (D : va_G) (A : Nat → Prop) (w : va_W) (α : Nat → Nat) (k : Nat) (blB : Nat → Int32) (blC : Nat → Int32) (o : Int32) (hB0 : Blk w k (cBallot D α k blB blC)) : Met l yX0_leaveOut (ws_ yX0_leaveOut cX0_leaveOut 2 none) ({ frames := 1, cells := 0, slots := 0, locals := 22 }) (gPre D A [.ref (α (k)), .int o] w) (gQ D A none (fun w1 => Blk w1 k (cBallot D α k (f_X0_leaveOut blB o) blC) ∧ Same w w1 k 3)) 0 0 A := by
  refine g_met [(0, .ref (α (k))), (1, .int o)] (plainFor_of_name (by decide)) (Nat.le_of_ble_eq_true rfl) rfl (fun pg en s mi ar below me co ls S hK hP hD hE hS hr hlk hnm hl => ?_)
  have hF : Same w w k 3 := Same.rf
  refine lv_aload_n S.1 S.2.1 dX0_leaveOut_0 rfl (lv_at hl 0 rfl) ?_
  refine g_get (v := .ref (α (k + 1))) S hK hP (hB0 0 _ rfl) rfl inX0 0 (by decide) qw245 rfl dX0_leaveOut_1 ?_
  refine lv_iload_n S.1 S.2.1 dX0_leaveOut_4 rfl (lv_at hl 1 rfl) ?_
  refine lv_bipush (v := (-2)) S.1 S.2.1 dX0_leaveOut_5 (by decide) ?_
  refine g_aft0 (st1 := []) (g_SN (As := [.ref (α (k + 1)), .int o, .int (-2)]) (rest := []) S ms_X11_setCell qn_RX0_26 (c_X11_setCell l D A w α (k + 1) 20 blB o (-2) (hB0 1 _ rfl) (by first | assumption | exact vin_d (by decide) | exact vp_in_nI (by omega) (by decide) | decide | omega)) hK hP hD hE hS rfl rfl hl.1 (Nat.le_of_ble_eq_true rfl) rfl rfl ⟨(Nat.le_of_ble_eq_true rfl), (Nat.le_of_ble_eq_true rfl)⟩ ⟨(Nat.le_of_ble_eq_true rfl), (Nat.le_of_ble_eq_true rfl)⟩ dX0_leaveOut_7) hS rfl (fun w1 H locs hQ hP hD hS => ?_)
  have hw := hQ
  have hF := Same.set hF 1 hw (by decide)
  have hB0 : Blk w1 k (cBallot D α k (f_X11_setCell 20 blB o (-2)) blC) := hB0.set 1 hw (Nat.le_of_ble_eq_true rfl) rfl
  have hf : (f_X0_leaveOut blB o) = (f_X11_setCell 20 blB o (-2)) := rfl
  exact g_vret S hr hlk hP hD hS (rfl) (⟨by rw [hf]; exact hB0, hF⟩) dX0_leaveOut_10
