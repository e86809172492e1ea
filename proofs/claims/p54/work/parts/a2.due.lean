/-! THE LAW: isDue -/
def mx (x y : Int32) : Int32 := if x < y then y else x
def mn (x y : Int32) : Int32 := if y < x then y else x
noncomputable def ow_ (v : VT) (wo b : Int32) : Int32 := a_owners v b &&& (wo ^^^ (-1))
noncomputable def cb_ (v : VT) (wo b : Int32) : Int32 := f_J6_bitCount_0f7a4 (ow_ v wo b)
noncomputable def lo_ (v : VT) (wo b : Int32) : Int32 := ow_ v wo b &&& -ow_ v wo b
noncomputable def dT_ (v : VT) (wo : Int32) : Int32 := (((((0 : Int32) + cb_ v wo 0) + cb_ v wo 1) + cb_ v wo 2) + cb_ v wo 3)
noncomputable def dM_ (v : VT) (wo : Int32) : Int32 := mx (mx (mx (mx (0 : Int32) (cb_ v wo 0)) (cb_ v wo 1)) (cb_ v wo 2)) (cb_ v wo 3)
def DUE (v : VT) (r need wo : Int32) : Prop := (r = (-2) ∧ (dT_ v wo < need ∨ dT_ v wo = 0)) ∨ ((r = 0 ∨ r = 1 ∨ r = 2 ∨ r = 3) ∧ need ≤ dT_ v wo ∧ cb_ v wo r = dM_ v wo ∧ ∀ b : Int32, b = 0 ∨ b = 1 ∨ b = 2 ∨ b = 3 → b = r ∨ cb_ v wo b < dM_ v wo ∨ lo_ v wo r < lo_ v wo b)
set_option maxHeartbeats 4000000 in
set_option maxRecDepth 100000 in
theorem l_isDue_m (l : Launch) (D : va_G) (A : Nat → Prop) (w : va_W) (α : Nat → Nat) {v : VT} (hB : OB D α w v) (need wo : Int32) (hd : dT_ v wo < need ∨ dT_ v wo = 0) : Met l yL_isDue (ws_ yL_isDue cL_isDue 10 (Option.some Jvm.ClassFile.FieldType.boolean)) ({ frames := 4, cells := 0, slots := 0, locals := 110 } : Room) (gPre D A [.ref (α 0), .int (-2), .int need, .int wo] w) (gR (some (.int 1))) 0 0 A := by
  refine g_met [(0, .ref (α 0)), (1, .int (-2)), (2, .int need), (3, .int wo)] (by decide +kernel) (Nat.le_of_ble_eq_true rfl) rfl (fun pg en s mi ar below me co ls S hK hP hD hE hS hr hlk hnm hl => ?_)
  refine lv_iconst (v := 0) S.1 S.2.1 dL_isDue_0 (by decide) ?_
  refine lv_istore (lv' := [(4, .int 0), (0, .ref (α 0)), (1, .int (-2)), (2, .int need), (3, .int wo)]) S.1 S.2.1 dL_isDue_1 hl (by decide) rfl (fun ls hl => ?_)
  refine lv_iconst (v := 0) S.1 S.2.1 dL_isDue_3 (by decide) ?_
  refine lv_istore (lv' := [(5, .int 0), (4, .int 0), (0, .ref (α 0)), (1, .int (-2)), (2, .int need), (3, .int wo)]) S.1 S.2.1 dL_isDue_4 hl (by decide) rfl (fun ls hl => ?_)
  refine lv_iconst (v := 0) S.1 S.2.1 dL_isDue_6 (by decide) ?_
  refine lv_istore (lv' := [(6, .int 0), (5, .int 0), (4, .int 0), (0, .ref (α 0)), (1, .int (-2)), (2, .int need), (3, .int wo)]) S.1 S.2.1 dL_isDue_7 hl (by decide) rfl (fun ls hl => ?_)
  refine lv_iload S.1 S.2.1 dL_isDue_9 (lv_at hl 0 rfl) ?_
  refine lv_iconst (v := 4) S.1 S.2.1 dL_isDue_11 (by decide) ?_
  refine lv_icmp_ge (tgt := 52) S.1 S.2.1 dL_isDue_12 (by decide) (fun z9 => absurd z9 (by decide)) (fun _ => ?_)
  refine lv_aload_n S.1 S.2.1 dL_isDue_15 rfl (lv_at hl 3 rfl) ?_
  refine lv_iload S.1 S.2.1 dL_isDue_16 (lv_at hl 0 rfl) ?_
  refine x_aftR (st1 := [.int (a_owners v (0 : Int32))]) (x_V0 (As := [.int 0]) (rest := []) S mi_X11_owners qw1313 (k_owners l D A w α (0 : Int32) hB) hK hP hD (hE.kept hS.2.1) (hB.recv hK hP) rfl rfl hl.1 (Nat.le_of_ble_eq_true rfl) rfl rfl ⟨(Nat.le_of_ble_eq_true rfl), (Nat.le_of_ble_eq_true rfl)⟩ ⟨(Nat.le_of_ble_eq_true rfl), (Nat.le_of_ble_eq_true rfl)⟩ dL_isDue_18) hS (fun _ h => h) rfl (fun locs hS => ?_)
  refine lv_iload_n S.1 S.2.1 dL_isDue_21 rfl (lv_at hl 6 rfl) ?_
  refine lv_iconst (v := (-1)) S.1 S.2.1 dL_isDue_22 (by decide) ?_
  refine lv_ixor S.1 S.2.1 dL_isDue_23 ?_
  refine lv_iand S.1 S.2.1 dL_isDue_24 ?_
  rw [show ((a_owners v (0 : Int32)) &&& (wo ^^^ (-1))) = (ow_ v wo 0) from rfl]
  refine x_aftR (st1 := [.int (f_J6_bitCount_0f7a4 (ow_ v wo 0))]) (x_St0 (As := [.int (ow_ v wo 0)]) (rest := []) S ms_J6_bitCount_0f7a4 qw1318 (c_J6_bitCount_0f7a4 l D A w α (ow_ v wo 0)) hK hP hD (hE.kept hS.2.1) rfl rfl hl.1 (Nat.le_of_ble_eq_true rfl) rfl rfl ⟨(Nat.le_of_ble_eq_true rfl), (Nat.le_of_ble_eq_true rfl)⟩ ⟨(Nat.le_of_ble_eq_true rfl), (Nat.le_of_ble_eq_true rfl)⟩ dL_isDue_25) hS (fun _ h => h) rfl (fun locs hS => ?_)
  rw [show (f_J6_bitCount_0f7a4 (ow_ v wo 0)) = (cb_ v wo 0) from rfl]
  refine lv_istore (lv' := [(7, .int (cb_ v wo 0)), (6, .int 0), (5, .int 0), (4, .int 0), (0, .ref (α 0)), (1, .int (-2)), (2, .int need), (3, .int wo)]) S.1 S.2.1 dL_isDue_28 hl (by decide) rfl (fun ls hl => ?_)
  refine lv_iload S.1 S.2.1 dL_isDue_30 (lv_at hl 3 rfl) ?_
  refine lv_iload S.1 S.2.1 dL_isDue_32 (lv_at hl 0 rfl) ?_
  refine lv_iadd S.1 S.2.1 dL_isDue_34 ?_
  refine lv_istore (lv' := [(4, .int ((0 : Int32) + (cb_ v wo 0))), (7, .int (cb_ v wo 0)), (6, .int 0), (5, .int 0), (0, .ref (α 0)), (1, .int (-2)), (2, .int need), (3, .int wo)]) S.1 S.2.1 dL_isDue_35 hl (by decide) rfl (fun ls hl => ?_)
  refine lv_iload S.1 S.2.1 dL_isDue_37 (lv_at hl 3 rfl) ?_
  refine lv_iload S.1 S.2.1 dL_isDue_39 (lv_at hl 1 rfl) ?_
  refine va_mmax S.1 S.2.1 (S.2.2.1.trans hl.1.symm) S.2.2.2.1 (S.2.2.2.2 _ qw1360) (S.2.2.2.2 _ qw45) (S.2.2.2.2 _ qw4) (S.2.2.2.2 _ qw46) (Nat.le_of_ble_eq_true rfl) (Nat.le_of_ble_eq_true rfl) (Nat.le_of_ble_eq_true rfl) (Nat.le_of_ble_eq_true rfl) dL_isDue_41 ?_
  rw [show (if (0 : Int32) < (cb_ v wo 0) then (cb_ v wo 0) else (0 : Int32)) = (mx (0 : Int32) (cb_ v wo 0)) from rfl]
  refine lv_istore (lv' := [(5, .int (mx (0 : Int32) (cb_ v wo 0))), (4, .int ((0 : Int32) + (cb_ v wo 0))), (7, .int (cb_ v wo 0)), (6, .int 0), (0, .ref (α 0)), (1, .int (-2)), (2, .int need), (3, .int wo)]) S.1 S.2.1 dL_isDue_44 hl (by decide) rfl (fun ls hl => ?_)
  refine lv_iinc (v := 1) (lv' := [(6, .int 1), (5, .int (mx (0 : Int32) (cb_ v wo 0))), (4, .int ((0 : Int32) + (cb_ v wo 0))), (7, .int (cb_ v wo 0)), (0, .ref (α 0)), (1, .int (-2)), (2, .int need), (3, .int wo)]) S.1 S.2.1 dL_isDue_46 hl (k := 3) rfl (by decide) (by decide) rfl (fun ls hl => ?_)
  refine lv_goto (tgt := 9) S.1 S.2.1 dL_isDue_49 (by decide) ?_
  refine lv_iload S.1 S.2.1 dL_isDue_9 (lv_at hl 0 rfl) ?_
  refine lv_iconst (v := 4) S.1 S.2.1 dL_isDue_11 (by decide) ?_
  refine lv_icmp_ge (tgt := 52) S.1 S.2.1 dL_isDue_12 (by decide) (fun z9 => absurd z9 (by decide)) (fun _ => ?_)
  refine lv_aload_n S.1 S.2.1 dL_isDue_15 rfl (lv_at hl 4 rfl) ?_
  refine lv_iload S.1 S.2.1 dL_isDue_16 (lv_at hl 0 rfl) ?_
  refine x_aftR (st1 := [.int (a_owners v (1 : Int32))]) (x_V0 (As := [.int 1]) (rest := []) S mi_X11_owners qw1313 (k_owners l D A w α (1 : Int32) hB) hK hP hD (hE.kept hS.2.1) (hB.recv hK hP) rfl rfl hl.1 (Nat.le_of_ble_eq_true rfl) rfl rfl ⟨(Nat.le_of_ble_eq_true rfl), (Nat.le_of_ble_eq_true rfl)⟩ ⟨(Nat.le_of_ble_eq_true rfl), (Nat.le_of_ble_eq_true rfl)⟩ dL_isDue_18) hS (fun _ h => h) rfl (fun locs hS => ?_)
  refine lv_iload_n S.1 S.2.1 dL_isDue_21 rfl (lv_at hl 7 rfl) ?_
  refine lv_iconst (v := (-1)) S.1 S.2.1 dL_isDue_22 (by decide) ?_
  refine lv_ixor S.1 S.2.1 dL_isDue_23 ?_
  refine lv_iand S.1 S.2.1 dL_isDue_24 ?_
  rw [show ((a_owners v (1 : Int32)) &&& (wo ^^^ (-1))) = (ow_ v wo 1) from rfl]
  refine x_aftR (st1 := [.int (f_J6_bitCount_0f7a4 (ow_ v wo 1))]) (x_St0 (As := [.int (ow_ v wo 1)]) (rest := []) S ms_J6_bitCount_0f7a4 qw1318 (c_J6_bitCount_0f7a4 l D A w α (ow_ v wo 1)) hK hP hD (hE.kept hS.2.1) rfl rfl hl.1 (Nat.le_of_ble_eq_true rfl) rfl rfl ⟨(Nat.le_of_ble_eq_true rfl), (Nat.le_of_ble_eq_true rfl)⟩ ⟨(Nat.le_of_ble_eq_true rfl), (Nat.le_of_ble_eq_true rfl)⟩ dL_isDue_25) hS (fun _ h => h) rfl (fun locs hS => ?_)
  rw [show (f_J6_bitCount_0f7a4 (ow_ v wo 1)) = (cb_ v wo 1) from rfl]
  refine lv_istore (lv' := [(7, .int (cb_ v wo 1)), (6, .int 1), (5, .int (mx (0 : Int32) (cb_ v wo 0))), (4, .int ((0 : Int32) + (cb_ v wo 0))), (0, .ref (α 0)), (1, .int (-2)), (2, .int need), (3, .int wo)]) S.1 S.2.1 dL_isDue_28 hl (by decide) rfl (fun ls hl => ?_)
  refine lv_iload S.1 S.2.1 dL_isDue_30 (lv_at hl 3 rfl) ?_
  refine lv_iload S.1 S.2.1 dL_isDue_32 (lv_at hl 0 rfl) ?_
  refine lv_iadd S.1 S.2.1 dL_isDue_34 ?_
  refine lv_istore (lv' := [(4, .int (((0 : Int32) + (cb_ v wo 0)) + (cb_ v wo 1))), (7, .int (cb_ v wo 1)), (6, .int 1), (5, .int (mx (0 : Int32) (cb_ v wo 0))), (0, .ref (α 0)), (1, .int (-2)), (2, .int need), (3, .int wo)]) S.1 S.2.1 dL_isDue_35 hl (by decide) rfl (fun ls hl => ?_)
  refine lv_iload S.1 S.2.1 dL_isDue_37 (lv_at hl 3 rfl) ?_
  refine lv_iload S.1 S.2.1 dL_isDue_39 (lv_at hl 1 rfl) ?_
  refine va_mmax S.1 S.2.1 (S.2.2.1.trans hl.1.symm) S.2.2.2.1 (S.2.2.2.2 _ qw1360) (S.2.2.2.2 _ qw45) (S.2.2.2.2 _ qw4) (S.2.2.2.2 _ qw46) (Nat.le_of_ble_eq_true rfl) (Nat.le_of_ble_eq_true rfl) (Nat.le_of_ble_eq_true rfl) (Nat.le_of_ble_eq_true rfl) dL_isDue_41 ?_
  rw [show (if (mx (0 : Int32) (cb_ v wo 0)) < (cb_ v wo 1) then (cb_ v wo 1) else (mx (0 : Int32) (cb_ v wo 0))) = (mx (mx (0 : Int32) (cb_ v wo 0)) (cb_ v wo 1)) from rfl]
  refine lv_istore (lv' := [(5, .int (mx (mx (0 : Int32) (cb_ v wo 0)) (cb_ v wo 1))), (4, .int (((0 : Int32) + (cb_ v wo 0)) + (cb_ v wo 1))), (7, .int (cb_ v wo 1)), (6, .int 1), (0, .ref (α 0)), (1, .int (-2)), (2, .int need), (3, .int wo)]) S.1 S.2.1 dL_isDue_44 hl (by decide) rfl (fun ls hl => ?_)
  refine lv_iinc (v := 2) (lv' := [(6, .int 2), (5, .int (mx (mx (0 : Int32) (cb_ v wo 0)) (cb_ v wo 1))), (4, .int (((0 : Int32) + (cb_ v wo 0)) + (cb_ v wo 1))), (7, .int (cb_ v wo 1)), (0, .ref (α 0)), (1, .int (-2)), (2, .int need), (3, .int wo)]) S.1 S.2.1 dL_isDue_46 hl (k := 3) rfl (by decide) (by decide) rfl (fun ls hl => ?_)
  refine lv_goto (tgt := 9) S.1 S.2.1 dL_isDue_49 (by decide) ?_
  refine lv_iload S.1 S.2.1 dL_isDue_9 (lv_at hl 0 rfl) ?_
  refine lv_iconst (v := 4) S.1 S.2.1 dL_isDue_11 (by decide) ?_
  refine lv_icmp_ge (tgt := 52) S.1 S.2.1 dL_isDue_12 (by decide) (fun z9 => absurd z9 (by decide)) (fun _ => ?_)
  refine lv_aload_n S.1 S.2.1 dL_isDue_15 rfl (lv_at hl 4 rfl) ?_
  refine lv_iload S.1 S.2.1 dL_isDue_16 (lv_at hl 0 rfl) ?_
  refine x_aftR (st1 := [.int (a_owners v (2 : Int32))]) (x_V0 (As := [.int 2]) (rest := []) S mi_X11_owners qw1313 (k_owners l D A w α (2 : Int32) hB) hK hP hD (hE.kept hS.2.1) (hB.recv hK hP) rfl rfl hl.1 (Nat.le_of_ble_eq_true rfl) rfl rfl ⟨(Nat.le_of_ble_eq_true rfl), (Nat.le_of_ble_eq_true rfl)⟩ ⟨(Nat.le_of_ble_eq_true rfl), (Nat.le_of_ble_eq_true rfl)⟩ dL_isDue_18) hS (fun _ h => h) rfl (fun locs hS => ?_)
  refine lv_iload_n S.1 S.2.1 dL_isDue_21 rfl (lv_at hl 7 rfl) ?_
  refine lv_iconst (v := (-1)) S.1 S.2.1 dL_isDue_22 (by decide) ?_
  refine lv_ixor S.1 S.2.1 dL_isDue_23 ?_
  refine lv_iand S.1 S.2.1 dL_isDue_24 ?_
  rw [show ((a_owners v (2 : Int32)) &&& (wo ^^^ (-1))) = (ow_ v wo 2) from rfl]
  refine x_aftR (st1 := [.int (f_J6_bitCount_0f7a4 (ow_ v wo 2))]) (x_St0 (As := [.int (ow_ v wo 2)]) (rest := []) S ms_J6_bitCount_0f7a4 qw1318 (c_J6_bitCount_0f7a4 l D A w α (ow_ v wo 2)) hK hP hD (hE.kept hS.2.1) rfl rfl hl.1 (Nat.le_of_ble_eq_true rfl) rfl rfl ⟨(Nat.le_of_ble_eq_true rfl), (Nat.le_of_ble_eq_true rfl)⟩ ⟨(Nat.le_of_ble_eq_true rfl), (Nat.le_of_ble_eq_true rfl)⟩ dL_isDue_25) hS (fun _ h => h) rfl (fun locs hS => ?_)
  rw [show (f_J6_bitCount_0f7a4 (ow_ v wo 2)) = (cb_ v wo 2) from rfl]
  refine lv_istore (lv' := [(7, .int (cb_ v wo 2)), (6, .int 2), (5, .int (mx (mx (0 : Int32) (cb_ v wo 0)) (cb_ v wo 1))), (4, .int (((0 : Int32) + (cb_ v wo 0)) + (cb_ v wo 1))), (0, .ref (α 0)), (1, .int (-2)), (2, .int need), (3, .int wo)]) S.1 S.2.1 dL_isDue_28 hl (by decide) rfl (fun ls hl => ?_)
  refine lv_iload S.1 S.2.1 dL_isDue_30 (lv_at hl 3 rfl) ?_
  refine lv_iload S.1 S.2.1 dL_isDue_32 (lv_at hl 0 rfl) ?_
  refine lv_iadd S.1 S.2.1 dL_isDue_34 ?_
  refine lv_istore (lv' := [(4, .int ((((0 : Int32) + (cb_ v wo 0)) + (cb_ v wo 1)) + (cb_ v wo 2))), (7, .int (cb_ v wo 2)), (6, .int 2), (5, .int (mx (mx (0 : Int32) (cb_ v wo 0)) (cb_ v wo 1))), (0, .ref (α 0)), (1, .int (-2)), (2, .int need), (3, .int wo)]) S.1 S.2.1 dL_isDue_35 hl (by decide) rfl (fun ls hl => ?_)
  refine lv_iload S.1 S.2.1 dL_isDue_37 (lv_at hl 3 rfl) ?_
  refine lv_iload S.1 S.2.1 dL_isDue_39 (lv_at hl 1 rfl) ?_
  refine va_mmax S.1 S.2.1 (S.2.2.1.trans hl.1.symm) S.2.2.2.1 (S.2.2.2.2 _ qw1360) (S.2.2.2.2 _ qw45) (S.2.2.2.2 _ qw4) (S.2.2.2.2 _ qw46) (Nat.le_of_ble_eq_true rfl) (Nat.le_of_ble_eq_true rfl) (Nat.le_of_ble_eq_true rfl) (Nat.le_of_ble_eq_true rfl) dL_isDue_41 ?_
  rw [show (if (mx (mx (0 : Int32) (cb_ v wo 0)) (cb_ v wo 1)) < (cb_ v wo 2) then (cb_ v wo 2) else (mx (mx (0 : Int32) (cb_ v wo 0)) (cb_ v wo 1))) = (mx (mx (mx (0 : Int32) (cb_ v wo 0)) (cb_ v wo 1)) (cb_ v wo 2)) from rfl]
  refine lv_istore (lv' := [(5, .int (mx (mx (mx (0 : Int32) (cb_ v wo 0)) (cb_ v wo 1)) (cb_ v wo 2))), (4, .int ((((0 : Int32) + (cb_ v wo 0)) + (cb_ v wo 1)) + (cb_ v wo 2))), (7, .int (cb_ v wo 2)), (6, .int 2), (0, .ref (α 0)), (1, .int (-2)), (2, .int need), (3, .int wo)]) S.1 S.2.1 dL_isDue_44 hl (by decide) rfl (fun ls hl => ?_)
  refine lv_iinc (v := 3) (lv' := [(6, .int 3), (5, .int (mx (mx (mx (0 : Int32) (cb_ v wo 0)) (cb_ v wo 1)) (cb_ v wo 2))), (4, .int ((((0 : Int32) + (cb_ v wo 0)) + (cb_ v wo 1)) + (cb_ v wo 2))), (7, .int (cb_ v wo 2)), (0, .ref (α 0)), (1, .int (-2)), (2, .int need), (3, .int wo)]) S.1 S.2.1 dL_isDue_46 hl (k := 3) rfl (by decide) (by decide) rfl (fun ls hl => ?_)
  refine lv_goto (tgt := 9) S.1 S.2.1 dL_isDue_49 (by decide) ?_
  refine lv_iload S.1 S.2.1 dL_isDue_9 (lv_at hl 0 rfl) ?_
  refine lv_iconst (v := 4) S.1 S.2.1 dL_isDue_11 (by decide) ?_
  refine lv_icmp_ge (tgt := 52) S.1 S.2.1 dL_isDue_12 (by decide) (fun z9 => absurd z9 (by decide)) (fun _ => ?_)
  refine lv_aload_n S.1 S.2.1 dL_isDue_15 rfl (lv_at hl 4 rfl) ?_
  refine lv_iload S.1 S.2.1 dL_isDue_16 (lv_at hl 0 rfl) ?_
  refine x_aftR (st1 := [.int (a_owners v (3 : Int32))]) (x_V0 (As := [.int 3]) (rest := []) S mi_X11_owners qw1313 (k_owners l D A w α (3 : Int32) hB) hK hP hD (hE.kept hS.2.1) (hB.recv hK hP) rfl rfl hl.1 (Nat.le_of_ble_eq_true rfl) rfl rfl ⟨(Nat.le_of_ble_eq_true rfl), (Nat.le_of_ble_eq_true rfl)⟩ ⟨(Nat.le_of_ble_eq_true rfl), (Nat.le_of_ble_eq_true rfl)⟩ dL_isDue_18) hS (fun _ h => h) rfl (fun locs hS => ?_)
  refine lv_iload_n S.1 S.2.1 dL_isDue_21 rfl (lv_at hl 7 rfl) ?_
  refine lv_iconst (v := (-1)) S.1 S.2.1 dL_isDue_22 (by decide) ?_
  refine lv_ixor S.1 S.2.1 dL_isDue_23 ?_
  refine lv_iand S.1 S.2.1 dL_isDue_24 ?_
  rw [show ((a_owners v (3 : Int32)) &&& (wo ^^^ (-1))) = (ow_ v wo 3) from rfl]
  refine x_aftR (st1 := [.int (f_J6_bitCount_0f7a4 (ow_ v wo 3))]) (x_St0 (As := [.int (ow_ v wo 3)]) (rest := []) S ms_J6_bitCount_0f7a4 qw1318 (c_J6_bitCount_0f7a4 l D A w α (ow_ v wo 3)) hK hP hD (hE.kept hS.2.1) rfl rfl hl.1 (Nat.le_of_ble_eq_true rfl) rfl rfl ⟨(Nat.le_of_ble_eq_true rfl), (Nat.le_of_ble_eq_true rfl)⟩ ⟨(Nat.le_of_ble_eq_true rfl), (Nat.le_of_ble_eq_true rfl)⟩ dL_isDue_25) hS (fun _ h => h) rfl (fun locs hS => ?_)
  rw [show (f_J6_bitCount_0f7a4 (ow_ v wo 3)) = (cb_ v wo 3) from rfl]
  refine lv_istore (lv' := [(7, .int (cb_ v wo 3)), (6, .int 3), (5, .int (mx (mx (mx (0 : Int32) (cb_ v wo 0)) (cb_ v wo 1)) (cb_ v wo 2))), (4, .int ((((0 : Int32) + (cb_ v wo 0)) + (cb_ v wo 1)) + (cb_ v wo 2))), (0, .ref (α 0)), (1, .int (-2)), (2, .int need), (3, .int wo)]) S.1 S.2.1 dL_isDue_28 hl (by decide) rfl (fun ls hl => ?_)
  refine lv_iload S.1 S.2.1 dL_isDue_30 (lv_at hl 3 rfl) ?_
  refine lv_iload S.1 S.2.1 dL_isDue_32 (lv_at hl 0 rfl) ?_
  refine lv_iadd S.1 S.2.1 dL_isDue_34 ?_
  rw [show (((((0 : Int32) + (cb_ v wo 0)) + (cb_ v wo 1)) + (cb_ v wo 2)) + (cb_ v wo 3)) = dT_ v wo from rfl]
  refine lv_istore (lv' := [(4, .int (dT_ v wo)), (7, .int (cb_ v wo 3)), (6, .int 3), (5, .int (mx (mx (mx (0 : Int32) (cb_ v wo 0)) (cb_ v wo 1)) (cb_ v wo 2))), (0, .ref (α 0)), (1, .int (-2)), (2, .int need), (3, .int wo)]) S.1 S.2.1 dL_isDue_35 hl (by decide) rfl (fun ls hl => ?_)
  refine lv_iload S.1 S.2.1 dL_isDue_37 (lv_at hl 3 rfl) ?_
  refine lv_iload S.1 S.2.1 dL_isDue_39 (lv_at hl 1 rfl) ?_
  refine va_mmax S.1 S.2.1 (S.2.2.1.trans hl.1.symm) S.2.2.2.1 (S.2.2.2.2 _ qw1360) (S.2.2.2.2 _ qw45) (S.2.2.2.2 _ qw4) (S.2.2.2.2 _ qw46) (Nat.le_of_ble_eq_true rfl) (Nat.le_of_ble_eq_true rfl) (Nat.le_of_ble_eq_true rfl) (Nat.le_of_ble_eq_true rfl) dL_isDue_41 ?_
  rw [show (if (mx (mx (mx (0 : Int32) (cb_ v wo 0)) (cb_ v wo 1)) (cb_ v wo 2)) < (cb_ v wo 3) then (cb_ v wo 3) else (mx (mx (mx (0 : Int32) (cb_ v wo 0)) (cb_ v wo 1)) (cb_ v wo 2))) = (mx (mx (mx (mx (0 : Int32) (cb_ v wo 0)) (cb_ v wo 1)) (cb_ v wo 2)) (cb_ v wo 3)) from rfl]
  rw [show (mx (mx (mx (mx (0 : Int32) (cb_ v wo 0)) (cb_ v wo 1)) (cb_ v wo 2)) (cb_ v wo 3)) = (dM_ v wo) from rfl]
  refine lv_istore (lv' := [(5, .int (dM_ v wo)), (4, .int (dT_ v wo)), (7, .int (cb_ v wo 3)), (6, .int 3), (0, .ref (α 0)), (1, .int (-2)), (2, .int need), (3, .int wo)]) S.1 S.2.1 dL_isDue_44 hl (by decide) rfl (fun ls hl => ?_)
  refine lv_iinc (v := 4) (lv' := [(6, .int 4), (5, .int (dM_ v wo)), (4, .int (dT_ v wo)), (7, .int (cb_ v wo 3)), (0, .ref (α 0)), (1, .int (-2)), (2, .int need), (3, .int wo)]) S.1 S.2.1 dL_isDue_46 hl (k := 3) rfl (by decide) (by decide) rfl (fun ls hl => ?_)
  refine lv_goto (tgt := 9) S.1 S.2.1 dL_isDue_49 (by decide) ?_
  refine lv_iload S.1 S.2.1 dL_isDue_9 (lv_at hl 0 rfl) ?_
  refine lv_iconst (v := 4) S.1 S.2.1 dL_isDue_11 (by decide) ?_
  refine lv_icmp_ge (tgt := 52) S.1 S.2.1 dL_isDue_12 (by decide) (fun _ => ?_) (fun z9 => absurd (by decide) z9)
  refine lv_iload_n S.1 S.2.1 dL_isDue_52 rfl (lv_at hl 5 rfl) ?_
  refine lv_if_ge (tgt := 79) S.1 S.2.1 dL_isDue_53 (by decide) (fun z9 => absurd z9 (by decide)) (fun _ => ?_)
  refine lv_iload_n S.1 S.2.1 dL_isDue_56 rfl (lv_at hl 5 rfl) ?_
  refine lv_bipush (v := (-2)) S.1 S.2.1 dL_isDue_57 (by decide) ?_
  refine lv_icmp_ne (tgt := 77) S.1 S.2.1 dL_isDue_59 (by decide) (fun z9 => absurd (by decide) z9) (fun _ => ?_)
  refine lv_iload S.1 S.2.1 dL_isDue_62 (lv_at hl 2 rfl) ?_
  refine lv_iload_n S.1 S.2.1 dL_isDue_64 rfl (lv_at hl 6 rfl) ?_
  refine lv_icmp_lt (tgt := 73) S.1 S.2.1 dL_isDue_65 (by decide) (fun c => ?_) (fun c => ?_)
  · refine lv_iconst (v := 1) S.1 S.2.1 dL_isDue_73 (by decide) ?_
    refine lv_goto (tgt := 78) S.1 S.2.1 dL_isDue_74 (by decide) ?_
    exact g_nretR S hr hlk hS (by decide) rfl dL_isDue_78
  · refine lv_iload S.1 S.2.1 dL_isDue_68 (lv_at hl 2 rfl) ?_
    refine lv_if_ne (tgt := 77) S.1 S.2.1 dL_isDue_70 (by decide) (fun z9 => absurd (hd.resolve_left c) z9) (fun _ => ?_)
    refine lv_iconst (v := 1) S.1 S.2.1 dL_isDue_73 (by decide) ?_
    refine lv_goto (tgt := 78) S.1 S.2.1 dL_isDue_74 (by decide) ?_
    exact g_nretR S hr hlk hS (by decide) rfl dL_isDue_78
set_option maxHeartbeats 4000000 in
set_option maxRecDepth 100000 in
theorem l_isDue_0 (l : Launch) (D : va_G) (A : Nat → Prop) (w : va_W) (α : Nat → Nat) {v : VT} (hB : OB D α w v) (need wo : Int32) (h1 : need ≤ dT_ v wo) (h2 : cb_ v wo 0 = dM_ v wo) (h3 : ∀ b : Int32, b = 0 ∨ b = 1 ∨ b = 2 ∨ b = 3 → b = 0 ∨ cb_ v wo b < dM_ v wo ∨ lo_ v wo 0 < lo_ v wo b) : Met l yL_isDue (ws_ yL_isDue cL_isDue 10 (Option.some Jvm.ClassFile.FieldType.boolean)) ({ frames := 4, cells := 0, slots := 0, locals := 110 } : Room) (gPre D A [.ref (α 0), .int 0, .int need, .int wo] w) (gR (some (.int 1))) 0 0 A := by
  refine g_met [(0, .ref (α 0)), (1, .int 0), (2, .int need), (3, .int wo)] (by decide +kernel) (Nat.le_of_ble_eq_true rfl) rfl (fun pg en s mi ar below me co ls S hK hP hD hE hS hr hlk hnm hl => ?_)
  refine lv_iconst (v := 0) S.1 S.2.1 dL_isDue_0 (by decide) ?_
  refine lv_istore (lv' := [(4, .int 0), (0, .ref (α 0)), (1, .int 0), (2, .int need), (3, .int wo)]) S.1 S.2.1 dL_isDue_1 hl (by decide) rfl (fun ls hl => ?_)
  refine lv_iconst (v := 0) S.1 S.2.1 dL_isDue_3 (by decide) ?_
  refine lv_istore (lv' := [(5, .int 0), (4, .int 0), (0, .ref (α 0)), (1, .int 0), (2, .int need), (3, .int wo)]) S.1 S.2.1 dL_isDue_4 hl (by decide) rfl (fun ls hl => ?_)
  refine lv_iconst (v := 0) S.1 S.2.1 dL_isDue_6 (by decide) ?_
  refine lv_istore (lv' := [(6, .int 0), (5, .int 0), (4, .int 0), (0, .ref (α 0)), (1, .int 0), (2, .int need), (3, .int wo)]) S.1 S.2.1 dL_isDue_7 hl (by decide) rfl (fun ls hl => ?_)
  refine lv_iload S.1 S.2.1 dL_isDue_9 (lv_at hl 0 rfl) ?_
  refine lv_iconst (v := 4) S.1 S.2.1 dL_isDue_11 (by decide) ?_
  refine lv_icmp_ge (tgt := 52) S.1 S.2.1 dL_isDue_12 (by decide) (fun z9 => absurd z9 (by decide)) (fun _ => ?_)
  refine lv_aload_n S.1 S.2.1 dL_isDue_15 rfl (lv_at hl 3 rfl) ?_
  refine lv_iload S.1 S.2.1 dL_isDue_16 (lv_at hl 0 rfl) ?_
  refine x_aftR (st1 := [.int (a_owners v (0 : Int32))]) (x_V0 (As := [.int 0]) (rest := []) S mi_X11_owners qw1313 (k_owners l D A w α (0 : Int32) hB) hK hP hD (hE.kept hS.2.1) (hB.recv hK hP) rfl rfl hl.1 (Nat.le_of_ble_eq_true rfl) rfl rfl ⟨(Nat.le_of_ble_eq_true rfl), (Nat.le_of_ble_eq_true rfl)⟩ ⟨(Nat.le_of_ble_eq_true rfl), (Nat.le_of_ble_eq_true rfl)⟩ dL_isDue_18) hS (fun _ h => h) rfl (fun locs hS => ?_)
  refine lv_iload_n S.1 S.2.1 dL_isDue_21 rfl (lv_at hl 6 rfl) ?_
  refine lv_iconst (v := (-1)) S.1 S.2.1 dL_isDue_22 (by decide) ?_
  refine lv_ixor S.1 S.2.1 dL_isDue_23 ?_
  refine lv_iand S.1 S.2.1 dL_isDue_24 ?_
  rw [show ((a_owners v (0 : Int32)) &&& (wo ^^^ (-1))) = (ow_ v wo 0) from rfl]
  refine x_aftR (st1 := [.int (f_J6_bitCount_0f7a4 (ow_ v wo 0))]) (x_St0 (As := [.int (ow_ v wo 0)]) (rest := []) S ms_J6_bitCount_0f7a4 qw1318 (c_J6_bitCount_0f7a4 l D A w α (ow_ v wo 0)) hK hP hD (hE.kept hS.2.1) rfl rfl hl.1 (Nat.le_of_ble_eq_true rfl) rfl rfl ⟨(Nat.le_of_ble_eq_true rfl), (Nat.le_of_ble_eq_true rfl)⟩ ⟨(Nat.le_of_ble_eq_true rfl), (Nat.le_of_ble_eq_true rfl)⟩ dL_isDue_25) hS (fun _ h => h) rfl (fun locs hS => ?_)
  rw [show (f_J6_bitCount_0f7a4 (ow_ v wo 0)) = (cb_ v wo 0) from rfl]
  refine lv_istore (lv' := [(7, .int (cb_ v wo 0)), (6, .int 0), (5, .int 0), (4, .int 0), (0, .ref (α 0)), (1, .int 0), (2, .int need), (3, .int wo)]) S.1 S.2.1 dL_isDue_28 hl (by decide) rfl (fun ls hl => ?_)
  refine lv_iload S.1 S.2.1 dL_isDue_30 (lv_at hl 3 rfl) ?_
  refine lv_iload S.1 S.2.1 dL_isDue_32 (lv_at hl 0 rfl) ?_
  refine lv_iadd S.1 S.2.1 dL_isDue_34 ?_
  refine lv_istore (lv' := [(4, .int ((0 : Int32) + (cb_ v wo 0))), (7, .int (cb_ v wo 0)), (6, .int 0), (5, .int 0), (0, .ref (α 0)), (1, .int 0), (2, .int need), (3, .int wo)]) S.1 S.2.1 dL_isDue_35 hl (by decide) rfl (fun ls hl => ?_)
  refine lv_iload S.1 S.2.1 dL_isDue_37 (lv_at hl 3 rfl) ?_
  refine lv_iload S.1 S.2.1 dL_isDue_39 (lv_at hl 1 rfl) ?_
  refine va_mmax S.1 S.2.1 (S.2.2.1.trans hl.1.symm) S.2.2.2.1 (S.2.2.2.2 _ qw1360) (S.2.2.2.2 _ qw45) (S.2.2.2.2 _ qw4) (S.2.2.2.2 _ qw46) (Nat.le_of_ble_eq_true rfl) (Nat.le_of_ble_eq_true rfl) (Nat.le_of_ble_eq_true rfl) (Nat.le_of_ble_eq_true rfl) dL_isDue_41 ?_
  rw [show (if (0 : Int32) < (cb_ v wo 0) then (cb_ v wo 0) else (0 : Int32)) = (mx (0 : Int32) (cb_ v wo 0)) from rfl]
  refine lv_istore (lv' := [(5, .int (mx (0 : Int32) (cb_ v wo 0))), (4, .int ((0 : Int32) + (cb_ v wo 0))), (7, .int (cb_ v wo 0)), (6, .int 0), (0, .ref (α 0)), (1, .int 0), (2, .int need), (3, .int wo)]) S.1 S.2.1 dL_isDue_44 hl (by decide) rfl (fun ls hl => ?_)
  refine lv_iinc (v := 1) (lv' := [(6, .int 1), (5, .int (mx (0 : Int32) (cb_ v wo 0))), (4, .int ((0 : Int32) + (cb_ v wo 0))), (7, .int (cb_ v wo 0)), (0, .ref (α 0)), (1, .int 0), (2, .int need), (3, .int wo)]) S.1 S.2.1 dL_isDue_46 hl (k := 3) rfl (by decide) (by decide) rfl (fun ls hl => ?_)
  refine lv_goto (tgt := 9) S.1 S.2.1 dL_isDue_49 (by decide) ?_
  refine lv_iload S.1 S.2.1 dL_isDue_9 (lv_at hl 0 rfl) ?_
  refine lv_iconst (v := 4) S.1 S.2.1 dL_isDue_11 (by decide) ?_
  refine lv_icmp_ge (tgt := 52) S.1 S.2.1 dL_isDue_12 (by decide) (fun z9 => absurd z9 (by decide)) (fun _ => ?_)
  refine lv_aload_n S.1 S.2.1 dL_isDue_15 rfl (lv_at hl 4 rfl) ?_
  refine lv_iload S.1 S.2.1 dL_isDue_16 (lv_at hl 0 rfl) ?_
  refine x_aftR (st1 := [.int (a_owners v (1 : Int32))]) (x_V0 (As := [.int 1]) (rest := []) S mi_X11_owners qw1313 (k_owners l D A w α (1 : Int32) hB) hK hP hD (hE.kept hS.2.1) (hB.recv hK hP) rfl rfl hl.1 (Nat.le_of_ble_eq_true rfl) rfl rfl ⟨(Nat.le_of_ble_eq_true rfl), (Nat.le_of_ble_eq_true rfl)⟩ ⟨(Nat.le_of_ble_eq_true rfl), (Nat.le_of_ble_eq_true rfl)⟩ dL_isDue_18) hS (fun _ h => h) rfl (fun locs hS => ?_)
  refine lv_iload_n S.1 S.2.1 dL_isDue_21 rfl (lv_at hl 7 rfl) ?_
  refine lv_iconst (v := (-1)) S.1 S.2.1 dL_isDue_22 (by decide) ?_
  refine lv_ixor S.1 S.2.1 dL_isDue_23 ?_
  refine lv_iand S.1 S.2.1 dL_isDue_24 ?_
  rw [show ((a_owners v (1 : Int32)) &&& (wo ^^^ (-1))) = (ow_ v wo 1) from rfl]
  refine x_aftR (st1 := [.int (f_J6_bitCount_0f7a4 (ow_ v wo 1))]) (x_St0 (As := [.int (ow_ v wo 1)]) (rest := []) S ms_J6_bitCount_0f7a4 qw1318 (c_J6_bitCount_0f7a4 l D A w α (ow_ v wo 1)) hK hP hD (hE.kept hS.2.1) rfl rfl hl.1 (Nat.le_of_ble_eq_true rfl) rfl rfl ⟨(Nat.le_of_ble_eq_true rfl), (Nat.le_of_ble_eq_true rfl)⟩ ⟨(Nat.le_of_ble_eq_true rfl), (Nat.le_of_ble_eq_true rfl)⟩ dL_isDue_25) hS (fun _ h => h) rfl (fun locs hS => ?_)
  rw [show (f_J6_bitCount_0f7a4 (ow_ v wo 1)) = (cb_ v wo 1) from rfl]
  refine lv_istore (lv' := [(7, .int (cb_ v wo 1)), (6, .int 1), (5, .int (mx (0 : Int32) (cb_ v wo 0))), (4, .int ((0 : Int32) + (cb_ v wo 0))), (0, .ref (α 0)), (1, .int 0), (2, .int need), (3, .int wo)]) S.1 S.2.1 dL_isDue_28 hl (by decide) rfl (fun ls hl => ?_)
  refine lv_iload S.1 S.2.1 dL_isDue_30 (lv_at hl 3 rfl) ?_
  refine lv_iload S.1 S.2.1 dL_isDue_32 (lv_at hl 0 rfl) ?_
  refine lv_iadd S.1 S.2.1 dL_isDue_34 ?_
  refine lv_istore (lv' := [(4, .int (((0 : Int32) + (cb_ v wo 0)) + (cb_ v wo 1))), (7, .int (cb_ v wo 1)), (6, .int 1), (5, .int (mx (0 : Int32) (cb_ v wo 0))), (0, .ref (α 0)), (1, .int 0), (2, .int need), (3, .int wo)]) S.1 S.2.1 dL_isDue_35 hl (by decide) rfl (fun ls hl => ?_)
  refine lv_iload S.1 S.2.1 dL_isDue_37 (lv_at hl 3 rfl) ?_
  refine lv_iload S.1 S.2.1 dL_isDue_39 (lv_at hl 1 rfl) ?_
  refine va_mmax S.1 S.2.1 (S.2.2.1.trans hl.1.symm) S.2.2.2.1 (S.2.2.2.2 _ qw1360) (S.2.2.2.2 _ qw45) (S.2.2.2.2 _ qw4) (S.2.2.2.2 _ qw46) (Nat.le_of_ble_eq_true rfl) (Nat.le_of_ble_eq_true rfl) (Nat.le_of_ble_eq_true rfl) (Nat.le_of_ble_eq_true rfl) dL_isDue_41 ?_
  rw [show (if (mx (0 : Int32) (cb_ v wo 0)) < (cb_ v wo 1) then (cb_ v wo 1) else (mx (0 : Int32) (cb_ v wo 0))) = (mx (mx (0 : Int32) (cb_ v wo 0)) (cb_ v wo 1)) from rfl]
  refine lv_istore (lv' := [(5, .int (mx (mx (0 : Int32) (cb_ v wo 0)) (cb_ v wo 1))), (4, .int (((0 : Int32) + (cb_ v wo 0)) + (cb_ v wo 1))), (7, .int (cb_ v wo 1)), (6, .int 1), (0, .ref (α 0)), (1, .int 0), (2, .int need), (3, .int wo)]) S.1 S.2.1 dL_isDue_44 hl (by decide) rfl (fun ls hl => ?_)
  refine lv_iinc (v := 2) (lv' := [(6, .int 2), (5, .int (mx (mx (0 : Int32) (cb_ v wo 0)) (cb_ v wo 1))), (4, .int (((0 : Int32) + (cb_ v wo 0)) + (cb_ v wo 1))), (7, .int (cb_ v wo 1)), (0, .ref (α 0)), (1, .int 0), (2, .int need), (3, .int wo)]) S.1 S.2.1 dL_isDue_46 hl (k := 3) rfl (by decide) (by decide) rfl (fun ls hl => ?_)
  refine lv_goto (tgt := 9) S.1 S.2.1 dL_isDue_49 (by decide) ?_
  refine lv_iload S.1 S.2.1 dL_isDue_9 (lv_at hl 0 rfl) ?_
  refine lv_iconst (v := 4) S.1 S.2.1 dL_isDue_11 (by decide) ?_
  refine lv_icmp_ge (tgt := 52) S.1 S.2.1 dL_isDue_12 (by decide) (fun z9 => absurd z9 (by decide)) (fun _ => ?_)
  refine lv_aload_n S.1 S.2.1 dL_isDue_15 rfl (lv_at hl 4 rfl) ?_
  refine lv_iload S.1 S.2.1 dL_isDue_16 (lv_at hl 0 rfl) ?_
  refine x_aftR (st1 := [.int (a_owners v (2 : Int32))]) (x_V0 (As := [.int 2]) (rest := []) S mi_X11_owners qw1313 (k_owners l D A w α (2 : Int32) hB) hK hP hD (hE.kept hS.2.1) (hB.recv hK hP) rfl rfl hl.1 (Nat.le_of_ble_eq_true rfl) rfl rfl ⟨(Nat.le_of_ble_eq_true rfl), (Nat.le_of_ble_eq_true rfl)⟩ ⟨(Nat.le_of_ble_eq_true rfl), (Nat.le_of_ble_eq_true rfl)⟩ dL_isDue_18) hS (fun _ h => h) rfl (fun locs hS => ?_)
  refine lv_iload_n S.1 S.2.1 dL_isDue_21 rfl (lv_at hl 7 rfl) ?_
  refine lv_iconst (v := (-1)) S.1 S.2.1 dL_isDue_22 (by decide) ?_
  refine lv_ixor S.1 S.2.1 dL_isDue_23 ?_
  refine lv_iand S.1 S.2.1 dL_isDue_24 ?_
  rw [show ((a_owners v (2 : Int32)) &&& (wo ^^^ (-1))) = (ow_ v wo 2) from rfl]
  refine x_aftR (st1 := [.int (f_J6_bitCount_0f7a4 (ow_ v wo 2))]) (x_St0 (As := [.int (ow_ v wo 2)]) (rest := []) S ms_J6_bitCount_0f7a4 qw1318 (c_J6_bitCount_0f7a4 l D A w α (ow_ v wo 2)) hK hP hD (hE.kept hS.2.1) rfl rfl hl.1 (Nat.le_of_ble_eq_true rfl) rfl rfl ⟨(Nat.le_of_ble_eq_true rfl), (Nat.le_of_ble_eq_true rfl)⟩ ⟨(Nat.le_of_ble_eq_true rfl), (Nat.le_of_ble_eq_true rfl)⟩ dL_isDue_25) hS (fun _ h => h) rfl (fun locs hS => ?_)
  rw [show (f_J6_bitCount_0f7a4 (ow_ v wo 2)) = (cb_ v wo 2) from rfl]
  refine lv_istore (lv' := [(7, .int (cb_ v wo 2)), (6, .int 2), (5, .int (mx (mx (0 : Int32) (cb_ v wo 0)) (cb_ v wo 1))), (4, .int (((0 : Int32) + (cb_ v wo 0)) + (cb_ v wo 1))), (0, .ref (α 0)), (1, .int 0), (2, .int need), (3, .int wo)]) S.1 S.2.1 dL_isDue_28 hl (by decide) rfl (fun ls hl => ?_)
  refine lv_iload S.1 S.2.1 dL_isDue_30 (lv_at hl 3 rfl) ?_
  refine lv_iload S.1 S.2.1 dL_isDue_32 (lv_at hl 0 rfl) ?_
  refine lv_iadd S.1 S.2.1 dL_isDue_34 ?_
  refine lv_istore (lv' := [(4, .int ((((0 : Int32) + (cb_ v wo 0)) + (cb_ v wo 1)) + (cb_ v wo 2))), (7, .int (cb_ v wo 2)), (6, .int 2), (5, .int (mx (mx (0 : Int32) (cb_ v wo 0)) (cb_ v wo 1))), (0, .ref (α 0)), (1, .int 0), (2, .int need), (3, .int wo)]) S.1 S.2.1 dL_isDue_35 hl (by decide) rfl (fun ls hl => ?_)
  refine lv_iload S.1 S.2.1 dL_isDue_37 (lv_at hl 3 rfl) ?_
  refine lv_iload S.1 S.2.1 dL_isDue_39 (lv_at hl 1 rfl) ?_
  refine va_mmax S.1 S.2.1 (S.2.2.1.trans hl.1.symm) S.2.2.2.1 (S.2.2.2.2 _ qw1360) (S.2.2.2.2 _ qw45) (S.2.2.2.2 _ qw4) (S.2.2.2.2 _ qw46) (Nat.le_of_ble_eq_true rfl) (Nat.le_of_ble_eq_true rfl) (Nat.le_of_ble_eq_true rfl) (Nat.le_of_ble_eq_true rfl) dL_isDue_41 ?_
  rw [show (if (mx (mx (0 : Int32) (cb_ v wo 0)) (cb_ v wo 1)) < (cb_ v wo 2) then (cb_ v wo 2) else (mx (mx (0 : Int32) (cb_ v wo 0)) (cb_ v wo 1))) = (mx (mx (mx (0 : Int32) (cb_ v wo 0)) (cb_ v wo 1)) (cb_ v wo 2)) from rfl]
  refine lv_istore (lv' := [(5, .int (mx (mx (mx (0 : Int32) (cb_ v wo 0)) (cb_ v wo 1)) (cb_ v wo 2))), (4, .int ((((0 : Int32) + (cb_ v wo 0)) + (cb_ v wo 1)) + (cb_ v wo 2))), (7, .int (cb_ v wo 2)), (6, .int 2), (0, .ref (α 0)), (1, .int 0), (2, .int need), (3, .int wo)]) S.1 S.2.1 dL_isDue_44 hl (by decide) rfl (fun ls hl => ?_)
  refine lv_iinc (v := 3) (lv' := [(6, .int 3), (5, .int (mx (mx (mx (0 : Int32) (cb_ v wo 0)) (cb_ v wo 1)) (cb_ v wo 2))), (4, .int ((((0 : Int32) + (cb_ v wo 0)) + (cb_ v wo 1)) + (cb_ v wo 2))), (7, .int (cb_ v wo 2)), (0, .ref (α 0)), (1, .int 0), (2, .int need), (3, .int wo)]) S.1 S.2.1 dL_isDue_46 hl (k := 3) rfl (by decide) (by decide) rfl (fun ls hl => ?_)
  refine lv_goto (tgt := 9) S.1 S.2.1 dL_isDue_49 (by decide) ?_
  refine lv_iload S.1 S.2.1 dL_isDue_9 (lv_at hl 0 rfl) ?_
  refine lv_iconst (v := 4) S.1 S.2.1 dL_isDue_11 (by decide) ?_
  refine lv_icmp_ge (tgt := 52) S.1 S.2.1 dL_isDue_12 (by decide) (fun z9 => absurd z9 (by decide)) (fun _ => ?_)
  refine lv_aload_n S.1 S.2.1 dL_isDue_15 rfl (lv_at hl 4 rfl) ?_
  refine lv_iload S.1 S.2.1 dL_isDue_16 (lv_at hl 0 rfl) ?_
  refine x_aftR (st1 := [.int (a_owners v (3 : Int32))]) (x_V0 (As := [.int 3]) (rest := []) S mi_X11_owners qw1313 (k_owners l D A w α (3 : Int32) hB) hK hP hD (hE.kept hS.2.1) (hB.recv hK hP) rfl rfl hl.1 (Nat.le_of_ble_eq_true rfl) rfl rfl ⟨(Nat.le_of_ble_eq_true rfl), (Nat.le_of_ble_eq_true rfl)⟩ ⟨(Nat.le_of_ble_eq_true rfl), (Nat.le_of_ble_eq_true rfl)⟩ dL_isDue_18) hS (fun _ h => h) rfl (fun locs hS => ?_)
  refine lv_iload_n S.1 S.2.1 dL_isDue_21 rfl (lv_at hl 7 rfl) ?_
  refine lv_iconst (v := (-1)) S.1 S.2.1 dL_isDue_22 (by decide) ?_
  refine lv_ixor S.1 S.2.1 dL_isDue_23 ?_
  refine lv_iand S.1 S.2.1 dL_isDue_24 ?_
  rw [show ((a_owners v (3 : Int32)) &&& (wo ^^^ (-1))) = (ow_ v wo 3) from rfl]
  refine x_aftR (st1 := [.int (f_J6_bitCount_0f7a4 (ow_ v wo 3))]) (x_St0 (As := [.int (ow_ v wo 3)]) (rest := []) S ms_J6_bitCount_0f7a4 qw1318 (c_J6_bitCount_0f7a4 l D A w α (ow_ v wo 3)) hK hP hD (hE.kept hS.2.1) rfl rfl hl.1 (Nat.le_of_ble_eq_true rfl) rfl rfl ⟨(Nat.le_of_ble_eq_true rfl), (Nat.le_of_ble_eq_true rfl)⟩ ⟨(Nat.le_of_ble_eq_true rfl), (Nat.le_of_ble_eq_true rfl)⟩ dL_isDue_25) hS (fun _ h => h) rfl (fun locs hS => ?_)
  rw [show (f_J6_bitCount_0f7a4 (ow_ v wo 3)) = (cb_ v wo 3) from rfl]
  refine lv_istore (lv' := [(7, .int (cb_ v wo 3)), (6, .int 3), (5, .int (mx (mx (mx (0 : Int32) (cb_ v wo 0)) (cb_ v wo 1)) (cb_ v wo 2))), (4, .int ((((0 : Int32) + (cb_ v wo 0)) + (cb_ v wo 1)) + (cb_ v wo 2))), (0, .ref (α 0)), (1, .int 0), (2, .int need), (3, .int wo)]) S.1 S.2.1 dL_isDue_28 hl (by decide) rfl (fun ls hl => ?_)
  refine lv_iload S.1 S.2.1 dL_isDue_30 (lv_at hl 3 rfl) ?_
  refine lv_iload S.1 S.2.1 dL_isDue_32 (lv_at hl 0 rfl) ?_
  refine lv_iadd S.1 S.2.1 dL_isDue_34 ?_
  rw [show (((((0 : Int32) + (cb_ v wo 0)) + (cb_ v wo 1)) + (cb_ v wo 2)) + (cb_ v wo 3)) = dT_ v wo from rfl]
  refine lv_istore (lv' := [(4, .int (dT_ v wo)), (7, .int (cb_ v wo 3)), (6, .int 3), (5, .int (mx (mx (mx (0 : Int32) (cb_ v wo 0)) (cb_ v wo 1)) (cb_ v wo 2))), (0, .ref (α 0)), (1, .int 0), (2, .int need), (3, .int wo)]) S.1 S.2.1 dL_isDue_35 hl (by decide) rfl (fun ls hl => ?_)
  refine lv_iload S.1 S.2.1 dL_isDue_37 (lv_at hl 3 rfl) ?_
  refine lv_iload S.1 S.2.1 dL_isDue_39 (lv_at hl 1 rfl) ?_
  refine va_mmax S.1 S.2.1 (S.2.2.1.trans hl.1.symm) S.2.2.2.1 (S.2.2.2.2 _ qw1360) (S.2.2.2.2 _ qw45) (S.2.2.2.2 _ qw4) (S.2.2.2.2 _ qw46) (Nat.le_of_ble_eq_true rfl) (Nat.le_of_ble_eq_true rfl) (Nat.le_of_ble_eq_true rfl) (Nat.le_of_ble_eq_true rfl) dL_isDue_41 ?_
  rw [show (if (mx (mx (mx (0 : Int32) (cb_ v wo 0)) (cb_ v wo 1)) (cb_ v wo 2)) < (cb_ v wo 3) then (cb_ v wo 3) else (mx (mx (mx (0 : Int32) (cb_ v wo 0)) (cb_ v wo 1)) (cb_ v wo 2))) = (mx (mx (mx (mx (0 : Int32) (cb_ v wo 0)) (cb_ v wo 1)) (cb_ v wo 2)) (cb_ v wo 3)) from rfl]
  rw [show (mx (mx (mx (mx (0 : Int32) (cb_ v wo 0)) (cb_ v wo 1)) (cb_ v wo 2)) (cb_ v wo 3)) = (dM_ v wo) from rfl]
  refine lv_istore (lv' := [(5, .int (dM_ v wo)), (4, .int (dT_ v wo)), (7, .int (cb_ v wo 3)), (6, .int 3), (0, .ref (α 0)), (1, .int 0), (2, .int need), (3, .int wo)]) S.1 S.2.1 dL_isDue_44 hl (by decide) rfl (fun ls hl => ?_)
  refine lv_iinc (v := 4) (lv' := [(6, .int 4), (5, .int (dM_ v wo)), (4, .int (dT_ v wo)), (7, .int (cb_ v wo 3)), (0, .ref (α 0)), (1, .int 0), (2, .int need), (3, .int wo)]) S.1 S.2.1 dL_isDue_46 hl (k := 3) rfl (by decide) (by decide) rfl (fun ls hl => ?_)
  refine lv_goto (tgt := 9) S.1 S.2.1 dL_isDue_49 (by decide) ?_
  refine lv_iload S.1 S.2.1 dL_isDue_9 (lv_at hl 0 rfl) ?_
  refine lv_iconst (v := 4) S.1 S.2.1 dL_isDue_11 (by decide) ?_
  refine lv_icmp_ge (tgt := 52) S.1 S.2.1 dL_isDue_12 (by decide) (fun _ => ?_) (fun z9 => absurd (by decide) z9)
  refine lv_iload_n S.1 S.2.1 dL_isDue_52 rfl (lv_at hl 5 rfl) ?_
  refine lv_if_ge (tgt := 79) S.1 S.2.1 dL_isDue_53 (by decide) (fun _ => ?_) (fun z9 => absurd (by decide) z9)
  refine lv_iload S.1 S.2.1 dL_isDue_79 (lv_at hl 2 rfl) ?_
  refine lv_iload_n S.1 S.2.1 dL_isDue_81 rfl (lv_at hl 6 rfl) ?_
  refine lv_icmp_lt (tgt := 106) S.1 S.2.1 dL_isDue_82 (by decide) (fun z9 => absurd z9 (fun z9 => absurd h1 (Int32.not_le.mpr z9))) (fun _ => ?_)
  refine lv_aload_n S.1 S.2.1 dL_isDue_85 rfl (lv_at hl 4 rfl) ?_
  refine lv_iload_n S.1 S.2.1 dL_isDue_86 rfl (lv_at hl 5 rfl) ?_
  refine x_aftR (st1 := [.int (a_owners v (0 : Int32))]) (x_V0 (As := [.int 0]) (rest := []) S mi_X11_owners qw1313 (k_owners l D A w α (0 : Int32) hB) hK hP hD (hE.kept hS.2.1) (hB.recv hK hP) rfl rfl hl.1 (Nat.le_of_ble_eq_true rfl) rfl rfl ⟨(Nat.le_of_ble_eq_true rfl), (Nat.le_of_ble_eq_true rfl)⟩ ⟨(Nat.le_of_ble_eq_true rfl), (Nat.le_of_ble_eq_true rfl)⟩ dL_isDue_87) hS (fun _ h => h) rfl (fun locs hS => ?_)
  refine lv_iload_n S.1 S.2.1 dL_isDue_90 rfl (lv_at hl 7 rfl) ?_
  refine lv_iconst (v := (-1)) S.1 S.2.1 dL_isDue_91 (by decide) ?_
  refine lv_ixor S.1 S.2.1 dL_isDue_92 ?_
  refine lv_iand S.1 S.2.1 dL_isDue_93 ?_
  rw [show ((a_owners v (0 : Int32)) &&& (wo ^^^ (-1))) = (ow_ v wo 0) from rfl]
  refine x_aftR (st1 := [.int (f_J6_bitCount_0f7a4 (ow_ v wo 0))]) (x_St0 (As := [.int (ow_ v wo 0)]) (rest := []) S ms_J6_bitCount_0f7a4 qw1318 (c_J6_bitCount_0f7a4 l D A w α (ow_ v wo 0)) hK hP hD (hE.kept hS.2.1) rfl rfl hl.1 (Nat.le_of_ble_eq_true rfl) rfl rfl ⟨(Nat.le_of_ble_eq_true rfl), (Nat.le_of_ble_eq_true rfl)⟩ ⟨(Nat.le_of_ble_eq_true rfl), (Nat.le_of_ble_eq_true rfl)⟩ dL_isDue_94) hS (fun _ h => h) rfl (fun locs hS => ?_)
  rw [show (f_J6_bitCount_0f7a4 (ow_ v wo 0)) = (cb_ v wo 0) from rfl]
  refine lv_iload S.1 S.2.1 dL_isDue_97 (lv_at hl 1 rfl) ?_
  refine lv_icmp_ne (tgt := 106) S.1 S.2.1 dL_isDue_99 (by decide) (fun z9 => absurd (h2) z9) (fun _ => ?_)
  refine lv_iconst (v := 1) S.1 S.2.1 dL_isDue_102 (by decide) ?_
  refine lv_goto (tgt := 107) S.1 S.2.1 dL_isDue_103 (by decide) ?_
  refine lv_istore (lv' := [(6, .int 1), (5, .int (dM_ v wo)), (4, .int (dT_ v wo)), (7, .int (cb_ v wo 3)), (0, .ref (α 0)), (1, .int 0), (2, .int need), (3, .int wo)]) S.1 S.2.1 dL_isDue_107 hl (by decide) rfl (fun ls hl => ?_)
  refine lv_aload_n S.1 S.2.1 dL_isDue_109 rfl (lv_at hl 4 rfl) ?_
  refine lv_iload_n S.1 S.2.1 dL_isDue_110 rfl (lv_at hl 5 rfl) ?_
  refine x_aftR (st1 := [.int (a_owners v (0 : Int32))]) (x_V0 (As := [.int 0]) (rest := []) S mi_X11_owners qw1313 (k_owners l D A w α (0 : Int32) hB) hK hP hD (hE.kept hS.2.1) (hB.recv hK hP) rfl rfl hl.1 (Nat.le_of_ble_eq_true rfl) rfl rfl ⟨(Nat.le_of_ble_eq_true rfl), (Nat.le_of_ble_eq_true rfl)⟩ ⟨(Nat.le_of_ble_eq_true rfl), (Nat.le_of_ble_eq_true rfl)⟩ dL_isDue_111) hS (fun _ h => h) rfl (fun locs hS => ?_)
  refine lv_iload_n S.1 S.2.1 dL_isDue_114 rfl (lv_at hl 7 rfl) ?_
  refine lv_iconst (v := (-1)) S.1 S.2.1 dL_isDue_115 (by decide) ?_
  refine lv_ixor S.1 S.2.1 dL_isDue_116 ?_
  refine lv_iand S.1 S.2.1 dL_isDue_117 ?_
  rw [show ((a_owners v (0 : Int32)) &&& (wo ^^^ (-1))) = (ow_ v wo 0) from rfl]
  refine lv_istore (lv' := [(7, .int (ow_ v wo 0)), (6, .int 1), (5, .int (dM_ v wo)), (4, .int (dT_ v wo)), (0, .ref (α 0)), (1, .int 0), (2, .int need), (3, .int wo)]) S.1 S.2.1 dL_isDue_118 hl (by decide) rfl (fun ls hl => ?_)
  refine lv_iconst (v := 0) S.1 S.2.1 dL_isDue_120 (by decide) ?_
  refine lv_istore (lv' := [(8, .int 0), (7, .int (ow_ v wo 0)), (6, .int 1), (5, .int (dM_ v wo)), (4, .int (dT_ v wo)), (0, .ref (α 0)), (1, .int 0), (2, .int need), (3, .int wo)]) S.1 S.2.1 dL_isDue_121 hl (by decide) rfl (fun ls hl => ?_)
  refine lv_iload S.1 S.2.1 dL_isDue_123 (lv_at hl 0 rfl) ?_
  refine lv_iconst (v := 4) S.1 S.2.1 dL_isDue_125 (by decide) ?_
  refine lv_icmp_ge (tgt := 188) S.1 S.2.1 dL_isDue_126 (by decide) (fun z9 => absurd z9 (by decide)) (fun _ => ?_)
  refine lv_iload S.1 S.2.1 dL_isDue_129 (lv_at hl 2 rfl) ?_
  refine lv_if_eq (tgt := 188) S.1 S.2.1 dL_isDue_131 (by decide) (fun z9 => absurd z9 (by decide)) (fun _ => ?_)
  refine lv_aload_n S.1 S.2.1 dL_isDue_134 rfl (lv_at hl 5 rfl) ?_
  refine lv_iload S.1 S.2.1 dL_isDue_135 (lv_at hl 0 rfl) ?_
  refine x_aftR (st1 := [.int (a_owners v (0 : Int32))]) (x_V0 (As := [.int 0]) (rest := []) S mi_X11_owners qw1313 (k_owners l D A w α (0 : Int32) hB) hK hP hD (hE.kept hS.2.1) (hB.recv hK hP) rfl rfl hl.1 (Nat.le_of_ble_eq_true rfl) rfl rfl ⟨(Nat.le_of_ble_eq_true rfl), (Nat.le_of_ble_eq_true rfl)⟩ ⟨(Nat.le_of_ble_eq_true rfl), (Nat.le_of_ble_eq_true rfl)⟩ dL_isDue_137) hS (fun _ h => h) rfl (fun locs hS => ?_)
  refine lv_iload_n S.1 S.2.1 dL_isDue_140 rfl (lv_at hl 8 rfl) ?_
  refine lv_iconst (v := (-1)) S.1 S.2.1 dL_isDue_141 (by decide) ?_
  refine lv_ixor S.1 S.2.1 dL_isDue_142 ?_
  refine lv_iand S.1 S.2.1 dL_isDue_143 ?_
  rw [show ((a_owners v (0 : Int32)) &&& (wo ^^^ (-1))) = (ow_ v wo 0) from rfl]
  refine lv_istore (lv' := [(9, .int (ow_ v wo 0)), (8, .int 0), (7, .int (ow_ v wo 0)), (6, .int 1), (5, .int (dM_ v wo)), (4, .int (dT_ v wo)), (0, .ref (α 0)), (1, .int 0), (2, .int need), (3, .int wo)]) S.1 S.2.1 dL_isDue_144 hl (by decide) rfl (fun ls hl => ?_)
  refine lv_iload S.1 S.2.1 dL_isDue_146 (lv_at hl 1 rfl) ?_
  refine lv_iload_n S.1 S.2.1 dL_isDue_148 rfl (lv_at hl 7 rfl) ?_
  refine lv_icmp_eq (tgt := 175) S.1 S.2.1 dL_isDue_149 (by decide) (fun _ => ?_) (fun z9 => absurd (by decide) z9)
  refine lv_iconst (v := 1) S.1 S.2.1 dL_isDue_175 (by decide) ?_
  refine lv_goto (tgt := 180) S.1 S.2.1 dL_isDue_176 (by decide) ?_
  refine lv_istore (lv' := [(6, .int 1), (9, .int (ow_ v wo 0)), (8, .int 0), (7, .int (ow_ v wo 0)), (5, .int (dM_ v wo)), (4, .int (dT_ v wo)), (0, .ref (α 0)), (1, .int 0), (2, .int need), (3, .int wo)]) S.1 S.2.1 dL_isDue_180 hl (by decide) rfl (fun ls hl => ?_)
  refine lv_iinc (v := 1) (lv' := [(8, .int 1), (6, .int 1), (9, .int (ow_ v wo 0)), (7, .int (ow_ v wo 0)), (5, .int (dM_ v wo)), (4, .int (dT_ v wo)), (0, .ref (α 0)), (1, .int 0), (2, .int need), (3, .int wo)]) S.1 S.2.1 dL_isDue_182 hl (k := 2) rfl (by decide) (by decide) rfl (fun ls hl => ?_)
  refine lv_goto (tgt := 123) S.1 S.2.1 dL_isDue_185 (by decide) ?_
  refine lv_iload S.1 S.2.1 dL_isDue_123 (lv_at hl 0 rfl) ?_
  refine lv_iconst (v := 4) S.1 S.2.1 dL_isDue_125 (by decide) ?_
  refine lv_icmp_ge (tgt := 188) S.1 S.2.1 dL_isDue_126 (by decide) (fun z9 => absurd z9 (by decide)) (fun _ => ?_)
  refine lv_iload S.1 S.2.1 dL_isDue_129 (lv_at hl 1 rfl) ?_
  refine lv_if_eq (tgt := 188) S.1 S.2.1 dL_isDue_131 (by decide) (fun z9 => absurd z9 (by decide)) (fun _ => ?_)
  refine lv_aload_n S.1 S.2.1 dL_isDue_134 rfl (lv_at hl 6 rfl) ?_
  refine lv_iload S.1 S.2.1 dL_isDue_135 (lv_at hl 0 rfl) ?_
  refine x_aftR (st1 := [.int (a_owners v (1 : Int32))]) (x_V0 (As := [.int 1]) (rest := []) S mi_X11_owners qw1313 (k_owners l D A w α (1 : Int32) hB) hK hP hD (hE.kept hS.2.1) (hB.recv hK hP) rfl rfl hl.1 (Nat.le_of_ble_eq_true rfl) rfl rfl ⟨(Nat.le_of_ble_eq_true rfl), (Nat.le_of_ble_eq_true rfl)⟩ ⟨(Nat.le_of_ble_eq_true rfl), (Nat.le_of_ble_eq_true rfl)⟩ dL_isDue_137) hS (fun _ h => h) rfl (fun locs hS => ?_)
  refine lv_iload_n S.1 S.2.1 dL_isDue_140 rfl (lv_at hl 9 rfl) ?_
  refine lv_iconst (v := (-1)) S.1 S.2.1 dL_isDue_141 (by decide) ?_
  refine lv_ixor S.1 S.2.1 dL_isDue_142 ?_
  refine lv_iand S.1 S.2.1 dL_isDue_143 ?_
  rw [show ((a_owners v (1 : Int32)) &&& (wo ^^^ (-1))) = (ow_ v wo 1) from rfl]
  refine lv_istore (lv' := [(9, .int (ow_ v wo 1)), (8, .int 1), (6, .int 1), (7, .int (ow_ v wo 0)), (5, .int (dM_ v wo)), (4, .int (dT_ v wo)), (0, .ref (α 0)), (1, .int 0), (2, .int need), (3, .int wo)]) S.1 S.2.1 dL_isDue_144 hl (by decide) rfl (fun ls hl => ?_)
  refine lv_iload S.1 S.2.1 dL_isDue_146 (lv_at hl 1 rfl) ?_
  refine lv_iload_n S.1 S.2.1 dL_isDue_148 rfl (lv_at hl 7 rfl) ?_
  refine lv_icmp_eq (tgt := 175) S.1 S.2.1 dL_isDue_149 (by decide) (fun z9 => absurd z9 (by decide)) (fun _ => ?_)
  refine lv_iload S.1 S.2.1 dL_isDue_152 (lv_at hl 0 rfl) ?_
  refine x_aftR (st1 := [.int (f_J6_bitCount_0f7a4 (ow_ v wo 1))]) (x_St0 (As := [.int (ow_ v wo 1)]) (rest := []) S ms_J6_bitCount_0f7a4 qw1318 (c_J6_bitCount_0f7a4 l D A w α (ow_ v wo 1)) hK hP hD (hE.kept hS.2.1) rfl rfl hl.1 (Nat.le_of_ble_eq_true rfl) rfl rfl ⟨(Nat.le_of_ble_eq_true rfl), (Nat.le_of_ble_eq_true rfl)⟩ ⟨(Nat.le_of_ble_eq_true rfl), (Nat.le_of_ble_eq_true rfl)⟩ dL_isDue_154) hS (fun _ h => h) rfl (fun locs hS => ?_)
  rw [show (f_J6_bitCount_0f7a4 (ow_ v wo 1)) = (cb_ v wo 1) from rfl]
  refine lv_iload S.1 S.2.1 dL_isDue_157 (lv_at hl 4 rfl) ?_
  have k1 : ∀ (locs : List Loc) (ls : Array Slot), va_S A s.heap s.heap locs → lv_has ls 10 [(9, .int (ow_ v wo 1)), (8, .int 1), (6, .int 1), (7, .int (ow_ v wo 0)), (5, .int (dM_ v wo)), (4, .int (dT_ v wo)), (0, .ref (α 0)), (1, .int 0), (2, .int need), (3, .int wo)] → W pg l en ({ frames := 4, cells := 0, slots := 0, locals := 110 } : Room) s mi ar below me co s.heap locs 0 0 (MQ below (gR (some (.int 1))) ar s 0 0 A) (F0 mi 175 ls []) := by
    intro locs ls hS hl
    refine lv_iconst (v := 1) S.1 S.2.1 dL_isDue_175 (by decide) ?_
    refine lv_goto (tgt := 180) S.1 S.2.1 dL_isDue_176 (by decide) ?_
    refine lv_istore (lv' := [(6, .int 1), (9, .int (ow_ v wo 1)), (8, .int 1), (7, .int (ow_ v wo 0)), (5, .int (dM_ v wo)), (4, .int (dT_ v wo)), (0, .ref (α 0)), (1, .int 0), (2, .int need), (3, .int wo)]) S.1 S.2.1 dL_isDue_180 hl (by decide) rfl (fun ls hl => ?_)
    refine lv_iinc (v := 2) (lv' := [(8, .int 2), (6, .int 1), (9, .int (ow_ v wo 1)), (7, .int (ow_ v wo 0)), (5, .int (dM_ v wo)), (4, .int (dT_ v wo)), (0, .ref (α 0)), (1, .int 0), (2, .int need), (3, .int wo)]) S.1 S.2.1 dL_isDue_182 hl (k := 2) rfl (by decide) (by decide) rfl (fun ls hl => ?_)
    refine lv_goto (tgt := 123) S.1 S.2.1 dL_isDue_185 (by decide) ?_
    refine lv_iload S.1 S.2.1 dL_isDue_123 (lv_at hl 0 rfl) ?_
    refine lv_iconst (v := 4) S.1 S.2.1 dL_isDue_125 (by decide) ?_
    refine lv_icmp_ge (tgt := 188) S.1 S.2.1 dL_isDue_126 (by decide) (fun z9 => absurd z9 (by decide)) (fun _ => ?_)
    refine lv_iload S.1 S.2.1 dL_isDue_129 (lv_at hl 1 rfl) ?_
    refine lv_if_eq (tgt := 188) S.1 S.2.1 dL_isDue_131 (by decide) (fun z9 => absurd z9 (by decide)) (fun _ => ?_)
    refine lv_aload_n S.1 S.2.1 dL_isDue_134 rfl (lv_at hl 6 rfl) ?_
    refine lv_iload S.1 S.2.1 dL_isDue_135 (lv_at hl 0 rfl) ?_
    refine x_aftR (st1 := [.int (a_owners v (2 : Int32))]) (x_V0 (As := [.int 2]) (rest := []) S mi_X11_owners qw1313 (k_owners l D A w α (2 : Int32) hB) hK hP hD (hE.kept hS.2.1) (hB.recv hK hP) rfl rfl hl.1 (Nat.le_of_ble_eq_true rfl) rfl rfl ⟨(Nat.le_of_ble_eq_true rfl), (Nat.le_of_ble_eq_true rfl)⟩ ⟨(Nat.le_of_ble_eq_true rfl), (Nat.le_of_ble_eq_true rfl)⟩ dL_isDue_137) hS (fun _ h => h) rfl (fun locs hS => ?_)
    refine lv_iload_n S.1 S.2.1 dL_isDue_140 rfl (lv_at hl 9 rfl) ?_
    refine lv_iconst (v := (-1)) S.1 S.2.1 dL_isDue_141 (by decide) ?_
    refine lv_ixor S.1 S.2.1 dL_isDue_142 ?_
    refine lv_iand S.1 S.2.1 dL_isDue_143 ?_
    rw [show ((a_owners v (2 : Int32)) &&& (wo ^^^ (-1))) = (ow_ v wo 2) from rfl]
    refine lv_istore (lv' := [(9, .int (ow_ v wo 2)), (8, .int 2), (6, .int 1), (7, .int (ow_ v wo 0)), (5, .int (dM_ v wo)), (4, .int (dT_ v wo)), (0, .ref (α 0)), (1, .int 0), (2, .int need), (3, .int wo)]) S.1 S.2.1 dL_isDue_144 hl (by decide) rfl (fun ls hl => ?_)
    refine lv_iload S.1 S.2.1 dL_isDue_146 (lv_at hl 1 rfl) ?_
    refine lv_iload_n S.1 S.2.1 dL_isDue_148 rfl (lv_at hl 7 rfl) ?_
    refine lv_icmp_eq (tgt := 175) S.1 S.2.1 dL_isDue_149 (by decide) (fun z9 => absurd z9 (by decide)) (fun _ => ?_)
    refine lv_iload S.1 S.2.1 dL_isDue_152 (lv_at hl 0 rfl) ?_
    refine x_aftR (st1 := [.int (f_J6_bitCount_0f7a4 (ow_ v wo 2))]) (x_St0 (As := [.int (ow_ v wo 2)]) (rest := []) S ms_J6_bitCount_0f7a4 qw1318 (c_J6_bitCount_0f7a4 l D A w α (ow_ v wo 2)) hK hP hD (hE.kept hS.2.1) rfl rfl hl.1 (Nat.le_of_ble_eq_true rfl) rfl rfl ⟨(Nat.le_of_ble_eq_true rfl), (Nat.le_of_ble_eq_true rfl)⟩ ⟨(Nat.le_of_ble_eq_true rfl), (Nat.le_of_ble_eq_true rfl)⟩ dL_isDue_154) hS (fun _ h => h) rfl (fun locs hS => ?_)
    rw [show (f_J6_bitCount_0f7a4 (ow_ v wo 2)) = (cb_ v wo 2) from rfl]
    refine lv_iload S.1 S.2.1 dL_isDue_157 (lv_at hl 4 rfl) ?_
    have k2 : ∀ (locs : List Loc) (ls : Array Slot), va_S A s.heap s.heap locs → lv_has ls 10 [(9, .int (ow_ v wo 2)), (8, .int 2), (6, .int 1), (7, .int (ow_ v wo 0)), (5, .int (dM_ v wo)), (4, .int (dT_ v wo)), (0, .ref (α 0)), (1, .int 0), (2, .int need), (3, .int wo)] → W pg l en ({ frames := 4, cells := 0, slots := 0, locals := 110 } : Room) s mi ar below me co s.heap locs 0 0 (MQ below (gR (some (.int 1))) ar s 0 0 A) (F0 mi 175 ls []) := by
      intro locs ls hS hl
      refine lv_iconst (v := 1) S.1 S.2.1 dL_isDue_175 (by decide) ?_
      refine lv_goto (tgt := 180) S.1 S.2.1 dL_isDue_176 (by decide) ?_
      refine lv_istore (lv' := [(6, .int 1), (9, .int (ow_ v wo 2)), (8, .int 2), (7, .int (ow_ v wo 0)), (5, .int (dM_ v wo)), (4, .int (dT_ v wo)), (0, .ref (α 0)), (1, .int 0), (2, .int need), (3, .int wo)]) S.1 S.2.1 dL_isDue_180 hl (by decide) rfl (fun ls hl => ?_)
      refine lv_iinc (v := 3) (lv' := [(8, .int 3), (6, .int 1), (9, .int (ow_ v wo 2)), (7, .int (ow_ v wo 0)), (5, .int (dM_ v wo)), (4, .int (dT_ v wo)), (0, .ref (α 0)), (1, .int 0), (2, .int need), (3, .int wo)]) S.1 S.2.1 dL_isDue_182 hl (k := 2) rfl (by decide) (by decide) rfl (fun ls hl => ?_)
      refine lv_goto (tgt := 123) S.1 S.2.1 dL_isDue_185 (by decide) ?_
      refine lv_iload S.1 S.2.1 dL_isDue_123 (lv_at hl 0 rfl) ?_
      refine lv_iconst (v := 4) S.1 S.2.1 dL_isDue_125 (by decide) ?_
      refine lv_icmp_ge (tgt := 188) S.1 S.2.1 dL_isDue_126 (by decide) (fun z9 => absurd z9 (by decide)) (fun _ => ?_)
      refine lv_iload S.1 S.2.1 dL_isDue_129 (lv_at hl 1 rfl) ?_
      refine lv_if_eq (tgt := 188) S.1 S.2.1 dL_isDue_131 (by decide) (fun z9 => absurd z9 (by decide)) (fun _ => ?_)
      refine lv_aload_n S.1 S.2.1 dL_isDue_134 rfl (lv_at hl 6 rfl) ?_
      refine lv_iload S.1 S.2.1 dL_isDue_135 (lv_at hl 0 rfl) ?_
      refine x_aftR (st1 := [.int (a_owners v (3 : Int32))]) (x_V0 (As := [.int 3]) (rest := []) S mi_X11_owners qw1313 (k_owners l D A w α (3 : Int32) hB) hK hP hD (hE.kept hS.2.1) (hB.recv hK hP) rfl rfl hl.1 (Nat.le_of_ble_eq_true rfl) rfl rfl ⟨(Nat.le_of_ble_eq_true rfl), (Nat.le_of_ble_eq_true rfl)⟩ ⟨(Nat.le_of_ble_eq_true rfl), (Nat.le_of_ble_eq_true rfl)⟩ dL_isDue_137) hS (fun _ h => h) rfl (fun locs hS => ?_)
      refine lv_iload_n S.1 S.2.1 dL_isDue_140 rfl (lv_at hl 9 rfl) ?_
      refine lv_iconst (v := (-1)) S.1 S.2.1 dL_isDue_141 (by decide) ?_
      refine lv_ixor S.1 S.2.1 dL_isDue_142 ?_
      refine lv_iand S.1 S.2.1 dL_isDue_143 ?_
      rw [show ((a_owners v (3 : Int32)) &&& (wo ^^^ (-1))) = (ow_ v wo 3) from rfl]
      refine lv_istore (lv' := [(9, .int (ow_ v wo 3)), (8, .int 3), (6, .int 1), (7, .int (ow_ v wo 0)), (5, .int (dM_ v wo)), (4, .int (dT_ v wo)), (0, .ref (α 0)), (1, .int 0), (2, .int need), (3, .int wo)]) S.1 S.2.1 dL_isDue_144 hl (by decide) rfl (fun ls hl => ?_)
      refine lv_iload S.1 S.2.1 dL_isDue_146 (lv_at hl 1 rfl) ?_
      refine lv_iload_n S.1 S.2.1 dL_isDue_148 rfl (lv_at hl 7 rfl) ?_
      refine lv_icmp_eq (tgt := 175) S.1 S.2.1 dL_isDue_149 (by decide) (fun z9 => absurd z9 (by decide)) (fun _ => ?_)
      refine lv_iload S.1 S.2.1 dL_isDue_152 (lv_at hl 0 rfl) ?_
      refine x_aftR (st1 := [.int (f_J6_bitCount_0f7a4 (ow_ v wo 3))]) (x_St0 (As := [.int (ow_ v wo 3)]) (rest := []) S ms_J6_bitCount_0f7a4 qw1318 (c_J6_bitCount_0f7a4 l D A w α (ow_ v wo 3)) hK hP hD (hE.kept hS.2.1) rfl rfl hl.1 (Nat.le_of_ble_eq_true rfl) rfl rfl ⟨(Nat.le_of_ble_eq_true rfl), (Nat.le_of_ble_eq_true rfl)⟩ ⟨(Nat.le_of_ble_eq_true rfl), (Nat.le_of_ble_eq_true rfl)⟩ dL_isDue_154) hS (fun _ h => h) rfl (fun locs hS => ?_)
      rw [show (f_J6_bitCount_0f7a4 (ow_ v wo 3)) = (cb_ v wo 3) from rfl]
      refine lv_iload S.1 S.2.1 dL_isDue_157 (lv_at hl 4 rfl) ?_
      have k3 : ∀ (locs : List Loc) (ls : Array Slot), va_S A s.heap s.heap locs → lv_has ls 10 [(9, .int (ow_ v wo 3)), (8, .int 3), (6, .int 1), (7, .int (ow_ v wo 0)), (5, .int (dM_ v wo)), (4, .int (dT_ v wo)), (0, .ref (α 0)), (1, .int 0), (2, .int need), (3, .int wo)] → W pg l en ({ frames := 4, cells := 0, slots := 0, locals := 110 } : Room) s mi ar below me co s.heap locs 0 0 (MQ below (gR (some (.int 1))) ar s 0 0 A) (F0 mi 175 ls []) := by
        intro locs ls hS hl
        refine lv_iconst (v := 1) S.1 S.2.1 dL_isDue_175 (by decide) ?_
        refine lv_goto (tgt := 180) S.1 S.2.1 dL_isDue_176 (by decide) ?_
        refine lv_istore (lv' := [(6, .int 1), (9, .int (ow_ v wo 3)), (8, .int 3), (7, .int (ow_ v wo 0)), (5, .int (dM_ v wo)), (4, .int (dT_ v wo)), (0, .ref (α 0)), (1, .int 0), (2, .int need), (3, .int wo)]) S.1 S.2.1 dL_isDue_180 hl (by decide) rfl (fun ls hl => ?_)
        refine lv_iinc (v := 4) (lv' := [(8, .int 4), (6, .int 1), (9, .int (ow_ v wo 3)), (7, .int (ow_ v wo 0)), (5, .int (dM_ v wo)), (4, .int (dT_ v wo)), (0, .ref (α 0)), (1, .int 0), (2, .int need), (3, .int wo)]) S.1 S.2.1 dL_isDue_182 hl (k := 2) rfl (by decide) (by decide) rfl (fun ls hl => ?_)
        refine lv_goto (tgt := 123) S.1 S.2.1 dL_isDue_185 (by decide) ?_
        refine lv_iload S.1 S.2.1 dL_isDue_123 (lv_at hl 0 rfl) ?_
        refine lv_iconst (v := 4) S.1 S.2.1 dL_isDue_125 (by decide) ?_
        refine lv_icmp_ge (tgt := 188) S.1 S.2.1 dL_isDue_126 (by decide) (fun _ => ?_) (fun z9 => absurd (by decide) z9)
        refine lv_iload S.1 S.2.1 dL_isDue_188 (lv_at hl 1 rfl) ?_
        exact g_nretR S hr hlk hS (by decide) rfl dL_isDue_190
      refine lv_icmp_lt (tgt := 175) S.1 S.2.1 dL_isDue_159 (by decide) (fun c => ?_) (fun c => ?_)
      · exact k3 _ _ hS hl
      · refine lv_iload S.1 S.2.1 dL_isDue_162 (lv_at hl 3 rfl) ?_
        refine x_aftR (st1 := [.int ((ow_ v wo 0) &&& -(ow_ v wo 0))]) (x_St (As := [.int (ow_ v wo 0)]) (rest := []) S ms_J6_lowestOneBit_0f7a4 qw1380 (x_J6_lowestOneBit_0f7a4 l D A w (ow_ v wo 0)) stX_t hK hP hD (hE.kept hS.2.1) trivial rfl rfl hl.1 (Nat.le_of_ble_eq_true rfl) rfl rfl ⟨(Nat.le_of_ble_eq_true rfl), (Nat.le_of_ble_eq_true rfl)⟩ ⟨(Nat.le_of_ble_eq_true rfl), (Nat.le_of_ble_eq_true rfl)⟩ dL_isDue_164) hS (fun _ h => h) rfl (fun locs hS => ?_)
        rw [show ((ow_ v wo 0) &&& -(ow_ v wo 0)) = (lo_ v wo 0) from rfl]
        refine lv_iload S.1 S.2.1 dL_isDue_167 (lv_at hl 0 rfl) ?_
        refine x_aftR (st1 := [.int ((ow_ v wo 3) &&& -(ow_ v wo 3)), .int (lo_ v wo 0)]) (x_St (As := [.int (ow_ v wo 3)]) (rest := [.int (lo_ v wo 0)]) S ms_J6_lowestOneBit_0f7a4 qw1380 (x_J6_lowestOneBit_0f7a4 l D A w (ow_ v wo 3)) stX_t hK hP hD (hE.kept hS.2.1) trivial rfl rfl hl.1 (Nat.le_of_ble_eq_true rfl) rfl rfl ⟨(Nat.le_of_ble_eq_true rfl), (Nat.le_of_ble_eq_true rfl)⟩ ⟨(Nat.le_of_ble_eq_true rfl), (Nat.le_of_ble_eq_true rfl)⟩ dL_isDue_169) hS (fun _ h => h) rfl (fun locs hS => ?_)
        rw [show ((ow_ v wo 3) &&& -(ow_ v wo 3)) = (lo_ v wo 3) from rfl]
        refine lv_icmp_ge (tgt := 179) S.1 S.2.1 dL_isDue_172 (by decide) (fun z9 => absurd z9 (Int32.not_le.mpr (((h3 3 (by decide)).resolve_left (by decide)).resolve_left c))) (fun _ => ?_)
        exact k3 _ _ hS hl
    refine lv_icmp_lt (tgt := 175) S.1 S.2.1 dL_isDue_159 (by decide) (fun c => ?_) (fun c => ?_)
    · exact k2 _ _ hS hl
    · refine lv_iload S.1 S.2.1 dL_isDue_162 (lv_at hl 3 rfl) ?_
      refine x_aftR (st1 := [.int ((ow_ v wo 0) &&& -(ow_ v wo 0))]) (x_St (As := [.int (ow_ v wo 0)]) (rest := []) S ms_J6_lowestOneBit_0f7a4 qw1380 (x_J6_lowestOneBit_0f7a4 l D A w (ow_ v wo 0)) stX_t hK hP hD (hE.kept hS.2.1) trivial rfl rfl hl.1 (Nat.le_of_ble_eq_true rfl) rfl rfl ⟨(Nat.le_of_ble_eq_true rfl), (Nat.le_of_ble_eq_true rfl)⟩ ⟨(Nat.le_of_ble_eq_true rfl), (Nat.le_of_ble_eq_true rfl)⟩ dL_isDue_164) hS (fun _ h => h) rfl (fun locs hS => ?_)
      rw [show ((ow_ v wo 0) &&& -(ow_ v wo 0)) = (lo_ v wo 0) from rfl]
      refine lv_iload S.1 S.2.1 dL_isDue_167 (lv_at hl 0 rfl) ?_
      refine x_aftR (st1 := [.int ((ow_ v wo 2) &&& -(ow_ v wo 2)), .int (lo_ v wo 0)]) (x_St (As := [.int (ow_ v wo 2)]) (rest := [.int (lo_ v wo 0)]) S ms_J6_lowestOneBit_0f7a4 qw1380 (x_J6_lowestOneBit_0f7a4 l D A w (ow_ v wo 2)) stX_t hK hP hD (hE.kept hS.2.1) trivial rfl rfl hl.1 (Nat.le_of_ble_eq_true rfl) rfl rfl ⟨(Nat.le_of_ble_eq_true rfl), (Nat.le_of_ble_eq_true rfl)⟩ ⟨(Nat.le_of_ble_eq_true rfl), (Nat.le_of_ble_eq_true rfl)⟩ dL_isDue_169) hS (fun _ h => h) rfl (fun locs hS => ?_)
      rw [show ((ow_ v wo 2) &&& -(ow_ v wo 2)) = (lo_ v wo 2) from rfl]
      refine lv_icmp_ge (tgt := 179) S.1 S.2.1 dL_isDue_172 (by decide) (fun z9 => absurd z9 (Int32.not_le.mpr (((h3 2 (by decide)).resolve_left (by decide)).resolve_left c))) (fun _ => ?_)
      exact k2 _ _ hS hl
  refine lv_icmp_lt (tgt := 175) S.1 S.2.1 dL_isDue_159 (by decide) (fun c => ?_) (fun c => ?_)
  · exact k1 _ _ hS hl
  · refine lv_iload S.1 S.2.1 dL_isDue_162 (lv_at hl 3 rfl) ?_
    refine x_aftR (st1 := [.int ((ow_ v wo 0) &&& -(ow_ v wo 0))]) (x_St (As := [.int (ow_ v wo 0)]) (rest := []) S ms_J6_lowestOneBit_0f7a4 qw1380 (x_J6_lowestOneBit_0f7a4 l D A w (ow_ v wo 0)) stX_t hK hP hD (hE.kept hS.2.1) trivial rfl rfl hl.1 (Nat.le_of_ble_eq_true rfl) rfl rfl ⟨(Nat.le_of_ble_eq_true rfl), (Nat.le_of_ble_eq_true rfl)⟩ ⟨(Nat.le_of_ble_eq_true rfl), (Nat.le_of_ble_eq_true rfl)⟩ dL_isDue_164) hS (fun _ h => h) rfl (fun locs hS => ?_)
    rw [show ((ow_ v wo 0) &&& -(ow_ v wo 0)) = (lo_ v wo 0) from rfl]
    refine lv_iload S.1 S.2.1 dL_isDue_167 (lv_at hl 0 rfl) ?_
    refine x_aftR (st1 := [.int ((ow_ v wo 1) &&& -(ow_ v wo 1)), .int (lo_ v wo 0)]) (x_St (As := [.int (ow_ v wo 1)]) (rest := [.int (lo_ v wo 0)]) S ms_J6_lowestOneBit_0f7a4 qw1380 (x_J6_lowestOneBit_0f7a4 l D A w (ow_ v wo 1)) stX_t hK hP hD (hE.kept hS.2.1) trivial rfl rfl hl.1 (Nat.le_of_ble_eq_true rfl) rfl rfl ⟨(Nat.le_of_ble_eq_true rfl), (Nat.le_of_ble_eq_true rfl)⟩ ⟨(Nat.le_of_ble_eq_true rfl), (Nat.le_of_ble_eq_true rfl)⟩ dL_isDue_169) hS (fun _ h => h) rfl (fun locs hS => ?_)
    rw [show ((ow_ v wo 1) &&& -(ow_ v wo 1)) = (lo_ v wo 1) from rfl]
    refine lv_icmp_ge (tgt := 179) S.1 S.2.1 dL_isDue_172 (by decide) (fun z9 => absurd z9 (Int32.not_le.mpr (((h3 1 (by decide)).resolve_left (by decide)).resolve_left c))) (fun _ => ?_)
    exact k1 _ _ hS hl
set_option maxHeartbeats 4000000 in
set_option maxRecDepth 100000 in
theorem l_isDue_1 (l : Launch) (D : va_G) (A : Nat → Prop) (w : va_W) (α : Nat → Nat) {v : VT} (hB : OB D α w v) (need wo : Int32) (h1 : need ≤ dT_ v wo) (h2 : cb_ v wo 1 = dM_ v wo) (h3 : ∀ b : Int32, b = 0 ∨ b = 1 ∨ b = 2 ∨ b = 3 → b = 1 ∨ cb_ v wo b < dM_ v wo ∨ lo_ v wo 1 < lo_ v wo b) : Met l yL_isDue (ws_ yL_isDue cL_isDue 10 (Option.some Jvm.ClassFile.FieldType.boolean)) ({ frames := 4, cells := 0, slots := 0, locals := 110 } : Room) (gPre D A [.ref (α 0), .int 1, .int need, .int wo] w) (gR (some (.int 1))) 0 0 A := by
  refine g_met [(0, .ref (α 0)), (1, .int 1), (2, .int need), (3, .int wo)] (by decide +kernel) (Nat.le_of_ble_eq_true rfl) rfl (fun pg en s mi ar below me co ls S hK hP hD hE hS hr hlk hnm hl => ?_)
  refine lv_iconst (v := 0) S.1 S.2.1 dL_isDue_0 (by decide) ?_
  refine lv_istore (lv' := [(4, .int 0), (0, .ref (α 0)), (1, .int 1), (2, .int need), (3, .int wo)]) S.1 S.2.1 dL_isDue_1 hl (by decide) rfl (fun ls hl => ?_)
  refine lv_iconst (v := 0) S.1 S.2.1 dL_isDue_3 (by decide) ?_
  refine lv_istore (lv' := [(5, .int 0), (4, .int 0), (0, .ref (α 0)), (1, .int 1), (2, .int need), (3, .int wo)]) S.1 S.2.1 dL_isDue_4 hl (by decide) rfl (fun ls hl => ?_)
  refine lv_iconst (v := 0) S.1 S.2.1 dL_isDue_6 (by decide) ?_
  refine lv_istore (lv' := [(6, .int 0), (5, .int 0), (4, .int 0), (0, .ref (α 0)), (1, .int 1), (2, .int need), (3, .int wo)]) S.1 S.2.1 dL_isDue_7 hl (by decide) rfl (fun ls hl => ?_)
  refine lv_iload S.1 S.2.1 dL_isDue_9 (lv_at hl 0 rfl) ?_
  refine lv_iconst (v := 4) S.1 S.2.1 dL_isDue_11 (by decide) ?_
  refine lv_icmp_ge (tgt := 52) S.1 S.2.1 dL_isDue_12 (by decide) (fun z9 => absurd z9 (by decide)) (fun _ => ?_)
  refine lv_aload_n S.1 S.2.1 dL_isDue_15 rfl (lv_at hl 3 rfl) ?_
  refine lv_iload S.1 S.2.1 dL_isDue_16 (lv_at hl 0 rfl) ?_
  refine x_aftR (st1 := [.int (a_owners v (0 : Int32))]) (x_V0 (As := [.int 0]) (rest := []) S mi_X11_owners qw1313 (k_owners l D A w α (0 : Int32) hB) hK hP hD (hE.kept hS.2.1) (hB.recv hK hP) rfl rfl hl.1 (Nat.le_of_ble_eq_true rfl) rfl rfl ⟨(Nat.le_of_ble_eq_true rfl), (Nat.le_of_ble_eq_true rfl)⟩ ⟨(Nat.le_of_ble_eq_true rfl), (Nat.le_of_ble_eq_true rfl)⟩ dL_isDue_18) hS (fun _ h => h) rfl (fun locs hS => ?_)
  refine lv_iload_n S.1 S.2.1 dL_isDue_21 rfl (lv_at hl 6 rfl) ?_
  refine lv_iconst (v := (-1)) S.1 S.2.1 dL_isDue_22 (by decide) ?_
  refine lv_ixor S.1 S.2.1 dL_isDue_23 ?_
  refine lv_iand S.1 S.2.1 dL_isDue_24 ?_
  rw [show ((a_owners v (0 : Int32)) &&& (wo ^^^ (-1))) = (ow_ v wo 0) from rfl]
  refine x_aftR (st1 := [.int (f_J6_bitCount_0f7a4 (ow_ v wo 0))]) (x_St0 (As := [.int (ow_ v wo 0)]) (rest := []) S ms_J6_bitCount_0f7a4 qw1318 (c_J6_bitCount_0f7a4 l D A w α (ow_ v wo 0)) hK hP hD (hE.kept hS.2.1) rfl rfl hl.1 (Nat.le_of_ble_eq_true rfl) rfl rfl ⟨(Nat.le_of_ble_eq_true rfl), (Nat.le_of_ble_eq_true rfl)⟩ ⟨(Nat.le_of_ble_eq_true rfl), (Nat.le_of_ble_eq_true rfl)⟩ dL_isDue_25) hS (fun _ h => h) rfl (fun locs hS => ?_)
  rw [show (f_J6_bitCount_0f7a4 (ow_ v wo 0)) = (cb_ v wo 0) from rfl]
  refine lv_istore (lv' := [(7, .int (cb_ v wo 0)), (6, .int 0), (5, .int 0), (4, .int 0), (0, .ref (α 0)), (1, .int 1), (2, .int need), (3, .int wo)]) S.1 S.2.1 dL_isDue_28 hl (by decide) rfl (fun ls hl => ?_)
  refine lv_iload S.1 S.2.1 dL_isDue_30 (lv_at hl 3 rfl) ?_
  refine lv_iload S.1 S.2.1 dL_isDue_32 (lv_at hl 0 rfl) ?_
  refine lv_iadd S.1 S.2.1 dL_isDue_34 ?_
  refine lv_istore (lv' := [(4, .int ((0 : Int32) + (cb_ v wo 0))), (7, .int (cb_ v wo 0)), (6, .int 0), (5, .int 0), (0, .ref (α 0)), (1, .int 1), (2, .int need), (3, .int wo)]) S.1 S.2.1 dL_isDue_35 hl (by decide) rfl (fun ls hl => ?_)
  refine lv_iload S.1 S.2.1 dL_isDue_37 (lv_at hl 3 rfl) ?_
  refine lv_iload S.1 S.2.1 dL_isDue_39 (lv_at hl 1 rfl) ?_
  refine va_mmax S.1 S.2.1 (S.2.2.1.trans hl.1.symm) S.2.2.2.1 (S.2.2.2.2 _ qw1360) (S.2.2.2.2 _ qw45) (S.2.2.2.2 _ qw4) (S.2.2.2.2 _ qw46) (Nat.le_of_ble_eq_true rfl) (Nat.le_of_ble_eq_true rfl) (Nat.le_of_ble_eq_true rfl) (Nat.le_of_ble_eq_true rfl) dL_isDue_41 ?_
  rw [show (if (0 : Int32) < (cb_ v wo 0) then (cb_ v wo 0) else (0 : Int32)) = (mx (0 : Int32) (cb_ v wo 0)) from rfl]
  refine lv_istore (lv' := [(5, .int (mx (0 : Int32) (cb_ v wo 0))), (4, .int ((0 : Int32) + (cb_ v wo 0))), (7, .int (cb_ v wo 0)), (6, .int 0), (0, .ref (α 0)), (1, .int 1), (2, .int need), (3, .int wo)]) S.1 S.2.1 dL_isDue_44 hl (by decide) rfl (fun ls hl => ?_)
  refine lv_iinc (v := 1) (lv' := [(6, .int 1), (5, .int (mx (0 : Int32) (cb_ v wo 0))), (4, .int ((0 : Int32) + (cb_ v wo 0))), (7, .int (cb_ v wo 0)), (0, .ref (α 0)), (1, .int 1), (2, .int need), (3, .int wo)]) S.1 S.2.1 dL_isDue_46 hl (k := 3) rfl (by decide) (by decide) rfl (fun ls hl => ?_)
  refine lv_goto (tgt := 9) S.1 S.2.1 dL_isDue_49 (by decide) ?_
  refine lv_iload S.1 S.2.1 dL_isDue_9 (lv_at hl 0 rfl) ?_
  refine lv_iconst (v := 4) S.1 S.2.1 dL_isDue_11 (by decide) ?_
  refine lv_icmp_ge (tgt := 52) S.1 S.2.1 dL_isDue_12 (by decide) (fun z9 => absurd z9 (by decide)) (fun _ => ?_)
  refine lv_aload_n S.1 S.2.1 dL_isDue_15 rfl (lv_at hl 4 rfl) ?_
  refine lv_iload S.1 S.2.1 dL_isDue_16 (lv_at hl 0 rfl) ?_
  refine x_aftR (st1 := [.int (a_owners v (1 : Int32))]) (x_V0 (As := [.int 1]) (rest := []) S mi_X11_owners qw1313 (k_owners l D A w α (1 : Int32) hB) hK hP hD (hE.kept hS.2.1) (hB.recv hK hP) rfl rfl hl.1 (Nat.le_of_ble_eq_true rfl) rfl rfl ⟨(Nat.le_of_ble_eq_true rfl), (Nat.le_of_ble_eq_true rfl)⟩ ⟨(Nat.le_of_ble_eq_true rfl), (Nat.le_of_ble_eq_true rfl)⟩ dL_isDue_18) hS (fun _ h => h) rfl (fun locs hS => ?_)
  refine lv_iload_n S.1 S.2.1 dL_isDue_21 rfl (lv_at hl 7 rfl) ?_
  refine lv_iconst (v := (-1)) S.1 S.2.1 dL_isDue_22 (by decide) ?_
  refine lv_ixor S.1 S.2.1 dL_isDue_23 ?_
  refine lv_iand S.1 S.2.1 dL_isDue_24 ?_
  rw [show ((a_owners v (1 : Int32)) &&& (wo ^^^ (-1))) = (ow_ v wo 1) from rfl]
  refine x_aftR (st1 := [.int (f_J6_bitCount_0f7a4 (ow_ v wo 1))]) (x_St0 (As := [.int (ow_ v wo 1)]) (rest := []) S ms_J6_bitCount_0f7a4 qw1318 (c_J6_bitCount_0f7a4 l D A w α (ow_ v wo 1)) hK hP hD (hE.kept hS.2.1) rfl rfl hl.1 (Nat.le_of_ble_eq_true rfl) rfl rfl ⟨(Nat.le_of_ble_eq_true rfl), (Nat.le_of_ble_eq_true rfl)⟩ ⟨(Nat.le_of_ble_eq_true rfl), (Nat.le_of_ble_eq_true rfl)⟩ dL_isDue_25) hS (fun _ h => h) rfl (fun locs hS => ?_)
  rw [show (f_J6_bitCount_0f7a4 (ow_ v wo 1)) = (cb_ v wo 1) from rfl]
  refine lv_istore (lv' := [(7, .int (cb_ v wo 1)), (6, .int 1), (5, .int (mx (0 : Int32) (cb_ v wo 0))), (4, .int ((0 : Int32) + (cb_ v wo 0))), (0, .ref (α 0)), (1, .int 1), (2, .int need), (3, .int wo)]) S.1 S.2.1 dL_isDue_28 hl (by decide) rfl (fun ls hl => ?_)
  refine lv_iload S.1 S.2.1 dL_isDue_30 (lv_at hl 3 rfl) ?_
  refine lv_iload S.1 S.2.1 dL_isDue_32 (lv_at hl 0 rfl) ?_
  refine lv_iadd S.1 S.2.1 dL_isDue_34 ?_
  refine lv_istore (lv' := [(4, .int (((0 : Int32) + (cb_ v wo 0)) + (cb_ v wo 1))), (7, .int (cb_ v wo 1)), (6, .int 1), (5, .int (mx (0 : Int32) (cb_ v wo 0))), (0, .ref (α 0)), (1, .int 1), (2, .int need), (3, .int wo)]) S.1 S.2.1 dL_isDue_35 hl (by decide) rfl (fun ls hl => ?_)
  refine lv_iload S.1 S.2.1 dL_isDue_37 (lv_at hl 3 rfl) ?_
  refine lv_iload S.1 S.2.1 dL_isDue_39 (lv_at hl 1 rfl) ?_
  refine va_mmax S.1 S.2.1 (S.2.2.1.trans hl.1.symm) S.2.2.2.1 (S.2.2.2.2 _ qw1360) (S.2.2.2.2 _ qw45) (S.2.2.2.2 _ qw4) (S.2.2.2.2 _ qw46) (Nat.le_of_ble_eq_true rfl) (Nat.le_of_ble_eq_true rfl) (Nat.le_of_ble_eq_true rfl) (Nat.le_of_ble_eq_true rfl) dL_isDue_41 ?_
  rw [show (if (mx (0 : Int32) (cb_ v wo 0)) < (cb_ v wo 1) then (cb_ v wo 1) else (mx (0 : Int32) (cb_ v wo 0))) = (mx (mx (0 : Int32) (cb_ v wo 0)) (cb_ v wo 1)) from rfl]
  refine lv_istore (lv' := [(5, .int (mx (mx (0 : Int32) (cb_ v wo 0)) (cb_ v wo 1))), (4, .int (((0 : Int32) + (cb_ v wo 0)) + (cb_ v wo 1))), (7, .int (cb_ v wo 1)), (6, .int 1), (0, .ref (α 0)), (1, .int 1), (2, .int need), (3, .int wo)]) S.1 S.2.1 dL_isDue_44 hl (by decide) rfl (fun ls hl => ?_)
  refine lv_iinc (v := 2) (lv' := [(6, .int 2), (5, .int (mx (mx (0 : Int32) (cb_ v wo 0)) (cb_ v wo 1))), (4, .int (((0 : Int32) + (cb_ v wo 0)) + (cb_ v wo 1))), (7, .int (cb_ v wo 1)), (0, .ref (α 0)), (1, .int 1), (2, .int need), (3, .int wo)]) S.1 S.2.1 dL_isDue_46 hl (k := 3) rfl (by decide) (by decide) rfl (fun ls hl => ?_)
  refine lv_goto (tgt := 9) S.1 S.2.1 dL_isDue_49 (by decide) ?_
  refine lv_iload S.1 S.2.1 dL_isDue_9 (lv_at hl 0 rfl) ?_
  refine lv_iconst (v := 4) S.1 S.2.1 dL_isDue_11 (by decide) ?_
  refine lv_icmp_ge (tgt := 52) S.1 S.2.1 dL_isDue_12 (by decide) (fun z9 => absurd z9 (by decide)) (fun _ => ?_)
  refine lv_aload_n S.1 S.2.1 dL_isDue_15 rfl (lv_at hl 4 rfl) ?_
  refine lv_iload S.1 S.2.1 dL_isDue_16 (lv_at hl 0 rfl) ?_
  refine x_aftR (st1 := [.int (a_owners v (2 : Int32))]) (x_V0 (As := [.int 2]) (rest := []) S mi_X11_owners qw1313 (k_owners l D A w α (2 : Int32) hB) hK hP hD (hE.kept hS.2.1) (hB.recv hK hP) rfl rfl hl.1 (Nat.le_of_ble_eq_true rfl) rfl rfl ⟨(Nat.le_of_ble_eq_true rfl), (Nat.le_of_ble_eq_true rfl)⟩ ⟨(Nat.le_of_ble_eq_true rfl), (Nat.le_of_ble_eq_true rfl)⟩ dL_isDue_18) hS (fun _ h => h) rfl (fun locs hS => ?_)
  refine lv_iload_n S.1 S.2.1 dL_isDue_21 rfl (lv_at hl 7 rfl) ?_
  refine lv_iconst (v := (-1)) S.1 S.2.1 dL_isDue_22 (by decide) ?_
  refine lv_ixor S.1 S.2.1 dL_isDue_23 ?_
  refine lv_iand S.1 S.2.1 dL_isDue_24 ?_
  rw [show ((a_owners v (2 : Int32)) &&& (wo ^^^ (-1))) = (ow_ v wo 2) from rfl]
  refine x_aftR (st1 := [.int (f_J6_bitCount_0f7a4 (ow_ v wo 2))]) (x_St0 (As := [.int (ow_ v wo 2)]) (rest := []) S ms_J6_bitCount_0f7a4 qw1318 (c_J6_bitCount_0f7a4 l D A w α (ow_ v wo 2)) hK hP hD (hE.kept hS.2.1) rfl rfl hl.1 (Nat.le_of_ble_eq_true rfl) rfl rfl ⟨(Nat.le_of_ble_eq_true rfl), (Nat.le_of_ble_eq_true rfl)⟩ ⟨(Nat.le_of_ble_eq_true rfl), (Nat.le_of_ble_eq_true rfl)⟩ dL_isDue_25) hS (fun _ h => h) rfl (fun locs hS => ?_)
  rw [show (f_J6_bitCount_0f7a4 (ow_ v wo 2)) = (cb_ v wo 2) from rfl]
  refine lv_istore (lv' := [(7, .int (cb_ v wo 2)), (6, .int 2), (5, .int (mx (mx (0 : Int32) (cb_ v wo 0)) (cb_ v wo 1))), (4, .int (((0 : Int32) + (cb_ v wo 0)) + (cb_ v wo 1))), (0, .ref (α 0)), (1, .int 1), (2, .int need), (3, .int wo)]) S.1 S.2.1 dL_isDue_28 hl (by decide) rfl (fun ls hl => ?_)
  refine lv_iload S.1 S.2.1 dL_isDue_30 (lv_at hl 3 rfl) ?_
  refine lv_iload S.1 S.2.1 dL_isDue_32 (lv_at hl 0 rfl) ?_
  refine lv_iadd S.1 S.2.1 dL_isDue_34 ?_
  refine lv_istore (lv' := [(4, .int ((((0 : Int32) + (cb_ v wo 0)) + (cb_ v wo 1)) + (cb_ v wo 2))), (7, .int (cb_ v wo 2)), (6, .int 2), (5, .int (mx (mx (0 : Int32) (cb_ v wo 0)) (cb_ v wo 1))), (0, .ref (α 0)), (1, .int 1), (2, .int need), (3, .int wo)]) S.1 S.2.1 dL_isDue_35 hl (by decide) rfl (fun ls hl => ?_)
  refine lv_iload S.1 S.2.1 dL_isDue_37 (lv_at hl 3 rfl) ?_
  refine lv_iload S.1 S.2.1 dL_isDue_39 (lv_at hl 1 rfl) ?_
  refine va_mmax S.1 S.2.1 (S.2.2.1.trans hl.1.symm) S.2.2.2.1 (S.2.2.2.2 _ qw1360) (S.2.2.2.2 _ qw45) (S.2.2.2.2 _ qw4) (S.2.2.2.2 _ qw46) (Nat.le_of_ble_eq_true rfl) (Nat.le_of_ble_eq_true rfl) (Nat.le_of_ble_eq_true rfl) (Nat.le_of_ble_eq_true rfl) dL_isDue_41 ?_
  rw [show (if (mx (mx (0 : Int32) (cb_ v wo 0)) (cb_ v wo 1)) < (cb_ v wo 2) then (cb_ v wo 2) else (mx (mx (0 : Int32) (cb_ v wo 0)) (cb_ v wo 1))) = (mx (mx (mx (0 : Int32) (cb_ v wo 0)) (cb_ v wo 1)) (cb_ v wo 2)) from rfl]
  refine lv_istore (lv' := [(5, .int (mx (mx (mx (0 : Int32) (cb_ v wo 0)) (cb_ v wo 1)) (cb_ v wo 2))), (4, .int ((((0 : Int32) + (cb_ v wo 0)) + (cb_ v wo 1)) + (cb_ v wo 2))), (7, .int (cb_ v wo 2)), (6, .int 2), (0, .ref (α 0)), (1, .int 1), (2, .int need), (3, .int wo)]) S.1 S.2.1 dL_isDue_44 hl (by decide) rfl (fun ls hl => ?_)
  refine lv_iinc (v := 3) (lv' := [(6, .int 3), (5, .int (mx (mx (mx (0 : Int32) (cb_ v wo 0)) (cb_ v wo 1)) (cb_ v wo 2))), (4, .int ((((0 : Int32) + (cb_ v wo 0)) + (cb_ v wo 1)) + (cb_ v wo 2))), (7, .int (cb_ v wo 2)), (0, .ref (α 0)), (1, .int 1), (2, .int need), (3, .int wo)]) S.1 S.2.1 dL_isDue_46 hl (k := 3) rfl (by decide) (by decide) rfl (fun ls hl => ?_)
  refine lv_goto (tgt := 9) S.1 S.2.1 dL_isDue_49 (by decide) ?_
  refine lv_iload S.1 S.2.1 dL_isDue_9 (lv_at hl 0 rfl) ?_
  refine lv_iconst (v := 4) S.1 S.2.1 dL_isDue_11 (by decide) ?_
  refine lv_icmp_ge (tgt := 52) S.1 S.2.1 dL_isDue_12 (by decide) (fun z9 => absurd z9 (by decide)) (fun _ => ?_)
  refine lv_aload_n S.1 S.2.1 dL_isDue_15 rfl (lv_at hl 4 rfl) ?_
  refine lv_iload S.1 S.2.1 dL_isDue_16 (lv_at hl 0 rfl) ?_
  refine x_aftR (st1 := [.int (a_owners v (3 : Int32))]) (x_V0 (As := [.int 3]) (rest := []) S mi_X11_owners qw1313 (k_owners l D A w α (3 : Int32) hB) hK hP hD (hE.kept hS.2.1) (hB.recv hK hP) rfl rfl hl.1 (Nat.le_of_ble_eq_true rfl) rfl rfl ⟨(Nat.le_of_ble_eq_true rfl), (Nat.le_of_ble_eq_true rfl)⟩ ⟨(Nat.le_of_ble_eq_true rfl), (Nat.le_of_ble_eq_true rfl)⟩ dL_isDue_18) hS (fun _ h => h) rfl (fun locs hS => ?_)
  refine lv_iload_n S.1 S.2.1 dL_isDue_21 rfl (lv_at hl 7 rfl) ?_
  refine lv_iconst (v := (-1)) S.1 S.2.1 dL_isDue_22 (by decide) ?_
  refine lv_ixor S.1 S.2.1 dL_isDue_23 ?_
  refine lv_iand S.1 S.2.1 dL_isDue_24 ?_
  rw [show ((a_owners v (3 : Int32)) &&& (wo ^^^ (-1))) = (ow_ v wo 3) from rfl]
  refine x_aftR (st1 := [.int (f_J6_bitCount_0f7a4 (ow_ v wo 3))]) (x_St0 (As := [.int (ow_ v wo 3)]) (rest := []) S ms_J6_bitCount_0f7a4 qw1318 (c_J6_bitCount_0f7a4 l D A w α (ow_ v wo 3)) hK hP hD (hE.kept hS.2.1) rfl rfl hl.1 (Nat.le_of_ble_eq_true rfl) rfl rfl ⟨(Nat.le_of_ble_eq_true rfl), (Nat.le_of_ble_eq_true rfl)⟩ ⟨(Nat.le_of_ble_eq_true rfl), (Nat.le_of_ble_eq_true rfl)⟩ dL_isDue_25) hS (fun _ h => h) rfl (fun locs hS => ?_)
  rw [show (f_J6_bitCount_0f7a4 (ow_ v wo 3)) = (cb_ v wo 3) from rfl]
  refine lv_istore (lv' := [(7, .int (cb_ v wo 3)), (6, .int 3), (5, .int (mx (mx (mx (0 : Int32) (cb_ v wo 0)) (cb_ v wo 1)) (cb_ v wo 2))), (4, .int ((((0 : Int32) + (cb_ v wo 0)) + (cb_ v wo 1)) + (cb_ v wo 2))), (0, .ref (α 0)), (1, .int 1), (2, .int need), (3, .int wo)]) S.1 S.2.1 dL_isDue_28 hl (by decide) rfl (fun ls hl => ?_)
  refine lv_iload S.1 S.2.1 dL_isDue_30 (lv_at hl 3 rfl) ?_
  refine lv_iload S.1 S.2.1 dL_isDue_32 (lv_at hl 0 rfl) ?_
  refine lv_iadd S.1 S.2.1 dL_isDue_34 ?_
  rw [show (((((0 : Int32) + (cb_ v wo 0)) + (cb_ v wo 1)) + (cb_ v wo 2)) + (cb_ v wo 3)) = dT_ v wo from rfl]
  refine lv_istore (lv' := [(4, .int (dT_ v wo)), (7, .int (cb_ v wo 3)), (6, .int 3), (5, .int (mx (mx (mx (0 : Int32) (cb_ v wo 0)) (cb_ v wo 1)) (cb_ v wo 2))), (0, .ref (α 0)), (1, .int 1), (2, .int need), (3, .int wo)]) S.1 S.2.1 dL_isDue_35 hl (by decide) rfl (fun ls hl => ?_)
  refine lv_iload S.1 S.2.1 dL_isDue_37 (lv_at hl 3 rfl) ?_
  refine lv_iload S.1 S.2.1 dL_isDue_39 (lv_at hl 1 rfl) ?_
  refine va_mmax S.1 S.2.1 (S.2.2.1.trans hl.1.symm) S.2.2.2.1 (S.2.2.2.2 _ qw1360) (S.2.2.2.2 _ qw45) (S.2.2.2.2 _ qw4) (S.2.2.2.2 _ qw46) (Nat.le_of_ble_eq_true rfl) (Nat.le_of_ble_eq_true rfl) (Nat.le_of_ble_eq_true rfl) (Nat.le_of_ble_eq_true rfl) dL_isDue_41 ?_
  rw [show (if (mx (mx (mx (0 : Int32) (cb_ v wo 0)) (cb_ v wo 1)) (cb_ v wo 2)) < (cb_ v wo 3) then (cb_ v wo 3) else (mx (mx (mx (0 : Int32) (cb_ v wo 0)) (cb_ v wo 1)) (cb_ v wo 2))) = (mx (mx (mx (mx (0 : Int32) (cb_ v wo 0)) (cb_ v wo 1)) (cb_ v wo 2)) (cb_ v wo 3)) from rfl]
  rw [show (mx (mx (mx (mx (0 : Int32) (cb_ v wo 0)) (cb_ v wo 1)) (cb_ v wo 2)) (cb_ v wo 3)) = (dM_ v wo) from rfl]
  refine lv_istore (lv' := [(5, .int (dM_ v wo)), (4, .int (dT_ v wo)), (7, .int (cb_ v wo 3)), (6, .int 3), (0, .ref (α 0)), (1, .int 1), (2, .int need), (3, .int wo)]) S.1 S.2.1 dL_isDue_44 hl (by decide) rfl (fun ls hl => ?_)
  refine lv_iinc (v := 4) (lv' := [(6, .int 4), (5, .int (dM_ v wo)), (4, .int (dT_ v wo)), (7, .int (cb_ v wo 3)), (0, .ref (α 0)), (1, .int 1), (2, .int need), (3, .int wo)]) S.1 S.2.1 dL_isDue_46 hl (k := 3) rfl (by decide) (by decide) rfl (fun ls hl => ?_)
  refine lv_goto (tgt := 9) S.1 S.2.1 dL_isDue_49 (by decide) ?_
  refine lv_iload S.1 S.2.1 dL_isDue_9 (lv_at hl 0 rfl) ?_
  refine lv_iconst (v := 4) S.1 S.2.1 dL_isDue_11 (by decide) ?_
  refine lv_icmp_ge (tgt := 52) S.1 S.2.1 dL_isDue_12 (by decide) (fun _ => ?_) (fun z9 => absurd (by decide) z9)
  refine lv_iload_n S.1 S.2.1 dL_isDue_52 rfl (lv_at hl 5 rfl) ?_
  refine lv_if_ge (tgt := 79) S.1 S.2.1 dL_isDue_53 (by decide) (fun _ => ?_) (fun z9 => absurd (by decide) z9)
  refine lv_iload S.1 S.2.1 dL_isDue_79 (lv_at hl 2 rfl) ?_
  refine lv_iload_n S.1 S.2.1 dL_isDue_81 rfl (lv_at hl 6 rfl) ?_
  refine lv_icmp_lt (tgt := 106) S.1 S.2.1 dL_isDue_82 (by decide) (fun z9 => absurd z9 (fun z9 => absurd h1 (Int32.not_le.mpr z9))) (fun _ => ?_)
  refine lv_aload_n S.1 S.2.1 dL_isDue_85 rfl (lv_at hl 4 rfl) ?_
  refine lv_iload_n S.1 S.2.1 dL_isDue_86 rfl (lv_at hl 5 rfl) ?_
  refine x_aftR (st1 := [.int (a_owners v (1 : Int32))]) (x_V0 (As := [.int 1]) (rest := []) S mi_X11_owners qw1313 (k_owners l D A w α (1 : Int32) hB) hK hP hD (hE.kept hS.2.1) (hB.recv hK hP) rfl rfl hl.1 (Nat.le_of_ble_eq_true rfl) rfl rfl ⟨(Nat.le_of_ble_eq_true rfl), (Nat.le_of_ble_eq_true rfl)⟩ ⟨(Nat.le_of_ble_eq_true rfl), (Nat.le_of_ble_eq_true rfl)⟩ dL_isDue_87) hS (fun _ h => h) rfl (fun locs hS => ?_)
  refine lv_iload_n S.1 S.2.1 dL_isDue_90 rfl (lv_at hl 7 rfl) ?_
  refine lv_iconst (v := (-1)) S.1 S.2.1 dL_isDue_91 (by decide) ?_
  refine lv_ixor S.1 S.2.1 dL_isDue_92 ?_
  refine lv_iand S.1 S.2.1 dL_isDue_93 ?_
  rw [show ((a_owners v (1 : Int32)) &&& (wo ^^^ (-1))) = (ow_ v wo 1) from rfl]
  refine x_aftR (st1 := [.int (f_J6_bitCount_0f7a4 (ow_ v wo 1))]) (x_St0 (As := [.int (ow_ v wo 1)]) (rest := []) S ms_J6_bitCount_0f7a4 qw1318 (c_J6_bitCount_0f7a4 l D A w α (ow_ v wo 1)) hK hP hD (hE.kept hS.2.1) rfl rfl hl.1 (Nat.le_of_ble_eq_true rfl) rfl rfl ⟨(Nat.le_of_ble_eq_true rfl), (Nat.le_of_ble_eq_true rfl)⟩ ⟨(Nat.le_of_ble_eq_true rfl), (Nat.le_of_ble_eq_true rfl)⟩ dL_isDue_94) hS (fun _ h => h) rfl (fun locs hS => ?_)
  rw [show (f_J6_bitCount_0f7a4 (ow_ v wo 1)) = (cb_ v wo 1) from rfl]
  refine lv_iload S.1 S.2.1 dL_isDue_97 (lv_at hl 1 rfl) ?_
  refine lv_icmp_ne (tgt := 106) S.1 S.2.1 dL_isDue_99 (by decide) (fun z9 => absurd (h2) z9) (fun _ => ?_)
  refine lv_iconst (v := 1) S.1 S.2.1 dL_isDue_102 (by decide) ?_
  refine lv_goto (tgt := 107) S.1 S.2.1 dL_isDue_103 (by decide) ?_
  refine lv_istore (lv' := [(6, .int 1), (5, .int (dM_ v wo)), (4, .int (dT_ v wo)), (7, .int (cb_ v wo 3)), (0, .ref (α 0)), (1, .int 1), (2, .int need), (3, .int wo)]) S.1 S.2.1 dL_isDue_107 hl (by decide) rfl (fun ls hl => ?_)
  refine lv_aload_n S.1 S.2.1 dL_isDue_109 rfl (lv_at hl 4 rfl) ?_
  refine lv_iload_n S.1 S.2.1 dL_isDue_110 rfl (lv_at hl 5 rfl) ?_
  refine x_aftR (st1 := [.int (a_owners v (1 : Int32))]) (x_V0 (As := [.int 1]) (rest := []) S mi_X11_owners qw1313 (k_owners l D A w α (1 : Int32) hB) hK hP hD (hE.kept hS.2.1) (hB.recv hK hP) rfl rfl hl.1 (Nat.le_of_ble_eq_true rfl) rfl rfl ⟨(Nat.le_of_ble_eq_true rfl), (Nat.le_of_ble_eq_true rfl)⟩ ⟨(Nat.le_of_ble_eq_true rfl), (Nat.le_of_ble_eq_true rfl)⟩ dL_isDue_111) hS (fun _ h => h) rfl (fun locs hS => ?_)
  refine lv_iload_n S.1 S.2.1 dL_isDue_114 rfl (lv_at hl 7 rfl) ?_
  refine lv_iconst (v := (-1)) S.1 S.2.1 dL_isDue_115 (by decide) ?_
  refine lv_ixor S.1 S.2.1 dL_isDue_116 ?_
  refine lv_iand S.1 S.2.1 dL_isDue_117 ?_
  rw [show ((a_owners v (1 : Int32)) &&& (wo ^^^ (-1))) = (ow_ v wo 1) from rfl]
  refine lv_istore (lv' := [(7, .int (ow_ v wo 1)), (6, .int 1), (5, .int (dM_ v wo)), (4, .int (dT_ v wo)), (0, .ref (α 0)), (1, .int 1), (2, .int need), (3, .int wo)]) S.1 S.2.1 dL_isDue_118 hl (by decide) rfl (fun ls hl => ?_)
  refine lv_iconst (v := 0) S.1 S.2.1 dL_isDue_120 (by decide) ?_
  refine lv_istore (lv' := [(8, .int 0), (7, .int (ow_ v wo 1)), (6, .int 1), (5, .int (dM_ v wo)), (4, .int (dT_ v wo)), (0, .ref (α 0)), (1, .int 1), (2, .int need), (3, .int wo)]) S.1 S.2.1 dL_isDue_121 hl (by decide) rfl (fun ls hl => ?_)
  refine lv_iload S.1 S.2.1 dL_isDue_123 (lv_at hl 0 rfl) ?_
  refine lv_iconst (v := 4) S.1 S.2.1 dL_isDue_125 (by decide) ?_
  refine lv_icmp_ge (tgt := 188) S.1 S.2.1 dL_isDue_126 (by decide) (fun z9 => absurd z9 (by decide)) (fun _ => ?_)
  refine lv_iload S.1 S.2.1 dL_isDue_129 (lv_at hl 2 rfl) ?_
  refine lv_if_eq (tgt := 188) S.1 S.2.1 dL_isDue_131 (by decide) (fun z9 => absurd z9 (by decide)) (fun _ => ?_)
  refine lv_aload_n S.1 S.2.1 dL_isDue_134 rfl (lv_at hl 5 rfl) ?_
  refine lv_iload S.1 S.2.1 dL_isDue_135 (lv_at hl 0 rfl) ?_
  refine x_aftR (st1 := [.int (a_owners v (0 : Int32))]) (x_V0 (As := [.int 0]) (rest := []) S mi_X11_owners qw1313 (k_owners l D A w α (0 : Int32) hB) hK hP hD (hE.kept hS.2.1) (hB.recv hK hP) rfl rfl hl.1 (Nat.le_of_ble_eq_true rfl) rfl rfl ⟨(Nat.le_of_ble_eq_true rfl), (Nat.le_of_ble_eq_true rfl)⟩ ⟨(Nat.le_of_ble_eq_true rfl), (Nat.le_of_ble_eq_true rfl)⟩ dL_isDue_137) hS (fun _ h => h) rfl (fun locs hS => ?_)
  refine lv_iload_n S.1 S.2.1 dL_isDue_140 rfl (lv_at hl 8 rfl) ?_
  refine lv_iconst (v := (-1)) S.1 S.2.1 dL_isDue_141 (by decide) ?_
  refine lv_ixor S.1 S.2.1 dL_isDue_142 ?_
  refine lv_iand S.1 S.2.1 dL_isDue_143 ?_
  rw [show ((a_owners v (0 : Int32)) &&& (wo ^^^ (-1))) = (ow_ v wo 0) from rfl]
  refine lv_istore (lv' := [(9, .int (ow_ v wo 0)), (8, .int 0), (7, .int (ow_ v wo 1)), (6, .int 1), (5, .int (dM_ v wo)), (4, .int (dT_ v wo)), (0, .ref (α 0)), (1, .int 1), (2, .int need), (3, .int wo)]) S.1 S.2.1 dL_isDue_144 hl (by decide) rfl (fun ls hl => ?_)
  refine lv_iload S.1 S.2.1 dL_isDue_146 (lv_at hl 1 rfl) ?_
  refine lv_iload_n S.1 S.2.1 dL_isDue_148 rfl (lv_at hl 7 rfl) ?_
  refine lv_icmp_eq (tgt := 175) S.1 S.2.1 dL_isDue_149 (by decide) (fun z9 => absurd z9 (by decide)) (fun _ => ?_)
  refine lv_iload S.1 S.2.1 dL_isDue_152 (lv_at hl 0 rfl) ?_
  refine x_aftR (st1 := [.int (f_J6_bitCount_0f7a4 (ow_ v wo 0))]) (x_St0 (As := [.int (ow_ v wo 0)]) (rest := []) S ms_J6_bitCount_0f7a4 qw1318 (c_J6_bitCount_0f7a4 l D A w α (ow_ v wo 0)) hK hP hD (hE.kept hS.2.1) rfl rfl hl.1 (Nat.le_of_ble_eq_true rfl) rfl rfl ⟨(Nat.le_of_ble_eq_true rfl), (Nat.le_of_ble_eq_true rfl)⟩ ⟨(Nat.le_of_ble_eq_true rfl), (Nat.le_of_ble_eq_true rfl)⟩ dL_isDue_154) hS (fun _ h => h) rfl (fun locs hS => ?_)
  rw [show (f_J6_bitCount_0f7a4 (ow_ v wo 0)) = (cb_ v wo 0) from rfl]
  refine lv_iload S.1 S.2.1 dL_isDue_157 (lv_at hl 4 rfl) ?_
  have k0 : ∀ (locs : List Loc) (ls : Array Slot), va_S A s.heap s.heap locs → lv_has ls 10 [(9, .int (ow_ v wo 0)), (8, .int 0), (7, .int (ow_ v wo 1)), (6, .int 1), (5, .int (dM_ v wo)), (4, .int (dT_ v wo)), (0, .ref (α 0)), (1, .int 1), (2, .int need), (3, .int wo)] → W pg l en ({ frames := 4, cells := 0, slots := 0, locals := 110 } : Room) s mi ar below me co s.heap locs 0 0 (MQ below (gR (some (.int 1))) ar s 0 0 A) (F0 mi 175 ls []) := by
    intro locs ls hS hl
    refine lv_iconst (v := 1) S.1 S.2.1 dL_isDue_175 (by decide) ?_
    refine lv_goto (tgt := 180) S.1 S.2.1 dL_isDue_176 (by decide) ?_
    refine lv_istore (lv' := [(6, .int 1), (9, .int (ow_ v wo 0)), (8, .int 0), (7, .int (ow_ v wo 1)), (5, .int (dM_ v wo)), (4, .int (dT_ v wo)), (0, .ref (α 0)), (1, .int 1), (2, .int need), (3, .int wo)]) S.1 S.2.1 dL_isDue_180 hl (by decide) rfl (fun ls hl => ?_)
    refine lv_iinc (v := 1) (lv' := [(8, .int 1), (6, .int 1), (9, .int (ow_ v wo 0)), (7, .int (ow_ v wo 1)), (5, .int (dM_ v wo)), (4, .int (dT_ v wo)), (0, .ref (α 0)), (1, .int 1), (2, .int need), (3, .int wo)]) S.1 S.2.1 dL_isDue_182 hl (k := 2) rfl (by decide) (by decide) rfl (fun ls hl => ?_)
    refine lv_goto (tgt := 123) S.1 S.2.1 dL_isDue_185 (by decide) ?_
    refine lv_iload S.1 S.2.1 dL_isDue_123 (lv_at hl 0 rfl) ?_
    refine lv_iconst (v := 4) S.1 S.2.1 dL_isDue_125 (by decide) ?_
    refine lv_icmp_ge (tgt := 188) S.1 S.2.1 dL_isDue_126 (by decide) (fun z9 => absurd z9 (by decide)) (fun _ => ?_)
    refine lv_iload S.1 S.2.1 dL_isDue_129 (lv_at hl 1 rfl) ?_
    refine lv_if_eq (tgt := 188) S.1 S.2.1 dL_isDue_131 (by decide) (fun z9 => absurd z9 (by decide)) (fun _ => ?_)
    refine lv_aload_n S.1 S.2.1 dL_isDue_134 rfl (lv_at hl 6 rfl) ?_
    refine lv_iload S.1 S.2.1 dL_isDue_135 (lv_at hl 0 rfl) ?_
    refine x_aftR (st1 := [.int (a_owners v (1 : Int32))]) (x_V0 (As := [.int 1]) (rest := []) S mi_X11_owners qw1313 (k_owners l D A w α (1 : Int32) hB) hK hP hD (hE.kept hS.2.1) (hB.recv hK hP) rfl rfl hl.1 (Nat.le_of_ble_eq_true rfl) rfl rfl ⟨(Nat.le_of_ble_eq_true rfl), (Nat.le_of_ble_eq_true rfl)⟩ ⟨(Nat.le_of_ble_eq_true rfl), (Nat.le_of_ble_eq_true rfl)⟩ dL_isDue_137) hS (fun _ h => h) rfl (fun locs hS => ?_)
    refine lv_iload_n S.1 S.2.1 dL_isDue_140 rfl (lv_at hl 9 rfl) ?_
    refine lv_iconst (v := (-1)) S.1 S.2.1 dL_isDue_141 (by decide) ?_
    refine lv_ixor S.1 S.2.1 dL_isDue_142 ?_
    refine lv_iand S.1 S.2.1 dL_isDue_143 ?_
    rw [show ((a_owners v (1 : Int32)) &&& (wo ^^^ (-1))) = (ow_ v wo 1) from rfl]
    refine lv_istore (lv' := [(9, .int (ow_ v wo 1)), (8, .int 1), (6, .int 1), (7, .int (ow_ v wo 1)), (5, .int (dM_ v wo)), (4, .int (dT_ v wo)), (0, .ref (α 0)), (1, .int 1), (2, .int need), (3, .int wo)]) S.1 S.2.1 dL_isDue_144 hl (by decide) rfl (fun ls hl => ?_)
    refine lv_iload S.1 S.2.1 dL_isDue_146 (lv_at hl 1 rfl) ?_
    refine lv_iload_n S.1 S.2.1 dL_isDue_148 rfl (lv_at hl 7 rfl) ?_
    refine lv_icmp_eq (tgt := 175) S.1 S.2.1 dL_isDue_149 (by decide) (fun _ => ?_) (fun z9 => absurd (by decide) z9)
    refine lv_iconst (v := 1) S.1 S.2.1 dL_isDue_175 (by decide) ?_
    refine lv_goto (tgt := 180) S.1 S.2.1 dL_isDue_176 (by decide) ?_
    refine lv_istore (lv' := [(6, .int 1), (9, .int (ow_ v wo 1)), (8, .int 1), (7, .int (ow_ v wo 1)), (5, .int (dM_ v wo)), (4, .int (dT_ v wo)), (0, .ref (α 0)), (1, .int 1), (2, .int need), (3, .int wo)]) S.1 S.2.1 dL_isDue_180 hl (by decide) rfl (fun ls hl => ?_)
    refine lv_iinc (v := 2) (lv' := [(8, .int 2), (6, .int 1), (9, .int (ow_ v wo 1)), (7, .int (ow_ v wo 1)), (5, .int (dM_ v wo)), (4, .int (dT_ v wo)), (0, .ref (α 0)), (1, .int 1), (2, .int need), (3, .int wo)]) S.1 S.2.1 dL_isDue_182 hl (k := 2) rfl (by decide) (by decide) rfl (fun ls hl => ?_)
    refine lv_goto (tgt := 123) S.1 S.2.1 dL_isDue_185 (by decide) ?_
    refine lv_iload S.1 S.2.1 dL_isDue_123 (lv_at hl 0 rfl) ?_
    refine lv_iconst (v := 4) S.1 S.2.1 dL_isDue_125 (by decide) ?_
    refine lv_icmp_ge (tgt := 188) S.1 S.2.1 dL_isDue_126 (by decide) (fun z9 => absurd z9 (by decide)) (fun _ => ?_)
    refine lv_iload S.1 S.2.1 dL_isDue_129 (lv_at hl 1 rfl) ?_
    refine lv_if_eq (tgt := 188) S.1 S.2.1 dL_isDue_131 (by decide) (fun z9 => absurd z9 (by decide)) (fun _ => ?_)
    refine lv_aload_n S.1 S.2.1 dL_isDue_134 rfl (lv_at hl 6 rfl) ?_
    refine lv_iload S.1 S.2.1 dL_isDue_135 (lv_at hl 0 rfl) ?_
    refine x_aftR (st1 := [.int (a_owners v (2 : Int32))]) (x_V0 (As := [.int 2]) (rest := []) S mi_X11_owners qw1313 (k_owners l D A w α (2 : Int32) hB) hK hP hD (hE.kept hS.2.1) (hB.recv hK hP) rfl rfl hl.1 (Nat.le_of_ble_eq_true rfl) rfl rfl ⟨(Nat.le_of_ble_eq_true rfl), (Nat.le_of_ble_eq_true rfl)⟩ ⟨(Nat.le_of_ble_eq_true rfl), (Nat.le_of_ble_eq_true rfl)⟩ dL_isDue_137) hS (fun _ h => h) rfl (fun locs hS => ?_)
    refine lv_iload_n S.1 S.2.1 dL_isDue_140 rfl (lv_at hl 9 rfl) ?_
    refine lv_iconst (v := (-1)) S.1 S.2.1 dL_isDue_141 (by decide) ?_
    refine lv_ixor S.1 S.2.1 dL_isDue_142 ?_
    refine lv_iand S.1 S.2.1 dL_isDue_143 ?_
    rw [show ((a_owners v (2 : Int32)) &&& (wo ^^^ (-1))) = (ow_ v wo 2) from rfl]
    refine lv_istore (lv' := [(9, .int (ow_ v wo 2)), (8, .int 2), (6, .int 1), (7, .int (ow_ v wo 1)), (5, .int (dM_ v wo)), (4, .int (dT_ v wo)), (0, .ref (α 0)), (1, .int 1), (2, .int need), (3, .int wo)]) S.1 S.2.1 dL_isDue_144 hl (by decide) rfl (fun ls hl => ?_)
    refine lv_iload S.1 S.2.1 dL_isDue_146 (lv_at hl 1 rfl) ?_
    refine lv_iload_n S.1 S.2.1 dL_isDue_148 rfl (lv_at hl 7 rfl) ?_
    refine lv_icmp_eq (tgt := 175) S.1 S.2.1 dL_isDue_149 (by decide) (fun z9 => absurd z9 (by decide)) (fun _ => ?_)
    refine lv_iload S.1 S.2.1 dL_isDue_152 (lv_at hl 0 rfl) ?_
    refine x_aftR (st1 := [.int (f_J6_bitCount_0f7a4 (ow_ v wo 2))]) (x_St0 (As := [.int (ow_ v wo 2)]) (rest := []) S ms_J6_bitCount_0f7a4 qw1318 (c_J6_bitCount_0f7a4 l D A w α (ow_ v wo 2)) hK hP hD (hE.kept hS.2.1) rfl rfl hl.1 (Nat.le_of_ble_eq_true rfl) rfl rfl ⟨(Nat.le_of_ble_eq_true rfl), (Nat.le_of_ble_eq_true rfl)⟩ ⟨(Nat.le_of_ble_eq_true rfl), (Nat.le_of_ble_eq_true rfl)⟩ dL_isDue_154) hS (fun _ h => h) rfl (fun locs hS => ?_)
    rw [show (f_J6_bitCount_0f7a4 (ow_ v wo 2)) = (cb_ v wo 2) from rfl]
    refine lv_iload S.1 S.2.1 dL_isDue_157 (lv_at hl 4 rfl) ?_
    have k2 : ∀ (locs : List Loc) (ls : Array Slot), va_S A s.heap s.heap locs → lv_has ls 10 [(9, .int (ow_ v wo 2)), (8, .int 2), (6, .int 1), (7, .int (ow_ v wo 1)), (5, .int (dM_ v wo)), (4, .int (dT_ v wo)), (0, .ref (α 0)), (1, .int 1), (2, .int need), (3, .int wo)] → W pg l en ({ frames := 4, cells := 0, slots := 0, locals := 110 } : Room) s mi ar below me co s.heap locs 0 0 (MQ below (gR (some (.int 1))) ar s 0 0 A) (F0 mi 175 ls []) := by
      intro locs ls hS hl
      refine lv_iconst (v := 1) S.1 S.2.1 dL_isDue_175 (by decide) ?_
      refine lv_goto (tgt := 180) S.1 S.2.1 dL_isDue_176 (by decide) ?_
      refine lv_istore (lv' := [(6, .int 1), (9, .int (ow_ v wo 2)), (8, .int 2), (7, .int (ow_ v wo 1)), (5, .int (dM_ v wo)), (4, .int (dT_ v wo)), (0, .ref (α 0)), (1, .int 1), (2, .int need), (3, .int wo)]) S.1 S.2.1 dL_isDue_180 hl (by decide) rfl (fun ls hl => ?_)
      refine lv_iinc (v := 3) (lv' := [(8, .int 3), (6, .int 1), (9, .int (ow_ v wo 2)), (7, .int (ow_ v wo 1)), (5, .int (dM_ v wo)), (4, .int (dT_ v wo)), (0, .ref (α 0)), (1, .int 1), (2, .int need), (3, .int wo)]) S.1 S.2.1 dL_isDue_182 hl (k := 2) rfl (by decide) (by decide) rfl (fun ls hl => ?_)
      refine lv_goto (tgt := 123) S.1 S.2.1 dL_isDue_185 (by decide) ?_
      refine lv_iload S.1 S.2.1 dL_isDue_123 (lv_at hl 0 rfl) ?_
      refine lv_iconst (v := 4) S.1 S.2.1 dL_isDue_125 (by decide) ?_
      refine lv_icmp_ge (tgt := 188) S.1 S.2.1 dL_isDue_126 (by decide) (fun z9 => absurd z9 (by decide)) (fun _ => ?_)
      refine lv_iload S.1 S.2.1 dL_isDue_129 (lv_at hl 1 rfl) ?_
      refine lv_if_eq (tgt := 188) S.1 S.2.1 dL_isDue_131 (by decide) (fun z9 => absurd z9 (by decide)) (fun _ => ?_)
      refine lv_aload_n S.1 S.2.1 dL_isDue_134 rfl (lv_at hl 6 rfl) ?_
      refine lv_iload S.1 S.2.1 dL_isDue_135 (lv_at hl 0 rfl) ?_
      refine x_aftR (st1 := [.int (a_owners v (3 : Int32))]) (x_V0 (As := [.int 3]) (rest := []) S mi_X11_owners qw1313 (k_owners l D A w α (3 : Int32) hB) hK hP hD (hE.kept hS.2.1) (hB.recv hK hP) rfl rfl hl.1 (Nat.le_of_ble_eq_true rfl) rfl rfl ⟨(Nat.le_of_ble_eq_true rfl), (Nat.le_of_ble_eq_true rfl)⟩ ⟨(Nat.le_of_ble_eq_true rfl), (Nat.le_of_ble_eq_true rfl)⟩ dL_isDue_137) hS (fun _ h => h) rfl (fun locs hS => ?_)
      refine lv_iload_n S.1 S.2.1 dL_isDue_140 rfl (lv_at hl 9 rfl) ?_
      refine lv_iconst (v := (-1)) S.1 S.2.1 dL_isDue_141 (by decide) ?_
      refine lv_ixor S.1 S.2.1 dL_isDue_142 ?_
      refine lv_iand S.1 S.2.1 dL_isDue_143 ?_
      rw [show ((a_owners v (3 : Int32)) &&& (wo ^^^ (-1))) = (ow_ v wo 3) from rfl]
      refine lv_istore (lv' := [(9, .int (ow_ v wo 3)), (8, .int 3), (6, .int 1), (7, .int (ow_ v wo 1)), (5, .int (dM_ v wo)), (4, .int (dT_ v wo)), (0, .ref (α 0)), (1, .int 1), (2, .int need), (3, .int wo)]) S.1 S.2.1 dL_isDue_144 hl (by decide) rfl (fun ls hl => ?_)
      refine lv_iload S.1 S.2.1 dL_isDue_146 (lv_at hl 1 rfl) ?_
      refine lv_iload_n S.1 S.2.1 dL_isDue_148 rfl (lv_at hl 7 rfl) ?_
      refine lv_icmp_eq (tgt := 175) S.1 S.2.1 dL_isDue_149 (by decide) (fun z9 => absurd z9 (by decide)) (fun _ => ?_)
      refine lv_iload S.1 S.2.1 dL_isDue_152 (lv_at hl 0 rfl) ?_
      refine x_aftR (st1 := [.int (f_J6_bitCount_0f7a4 (ow_ v wo 3))]) (x_St0 (As := [.int (ow_ v wo 3)]) (rest := []) S ms_J6_bitCount_0f7a4 qw1318 (c_J6_bitCount_0f7a4 l D A w α (ow_ v wo 3)) hK hP hD (hE.kept hS.2.1) rfl rfl hl.1 (Nat.le_of_ble_eq_true rfl) rfl rfl ⟨(Nat.le_of_ble_eq_true rfl), (Nat.le_of_ble_eq_true rfl)⟩ ⟨(Nat.le_of_ble_eq_true rfl), (Nat.le_of_ble_eq_true rfl)⟩ dL_isDue_154) hS (fun _ h => h) rfl (fun locs hS => ?_)
      rw [show (f_J6_bitCount_0f7a4 (ow_ v wo 3)) = (cb_ v wo 3) from rfl]
      refine lv_iload S.1 S.2.1 dL_isDue_157 (lv_at hl 4 rfl) ?_
      have k3 : ∀ (locs : List Loc) (ls : Array Slot), va_S A s.heap s.heap locs → lv_has ls 10 [(9, .int (ow_ v wo 3)), (8, .int 3), (6, .int 1), (7, .int (ow_ v wo 1)), (5, .int (dM_ v wo)), (4, .int (dT_ v wo)), (0, .ref (α 0)), (1, .int 1), (2, .int need), (3, .int wo)] → W pg l en ({ frames := 4, cells := 0, slots := 0, locals := 110 } : Room) s mi ar below me co s.heap locs 0 0 (MQ below (gR (some (.int 1))) ar s 0 0 A) (F0 mi 175 ls []) := by
        intro locs ls hS hl
        refine lv_iconst (v := 1) S.1 S.2.1 dL_isDue_175 (by decide) ?_
        refine lv_goto (tgt := 180) S.1 S.2.1 dL_isDue_176 (by decide) ?_
        refine lv_istore (lv' := [(6, .int 1), (9, .int (ow_ v wo 3)), (8, .int 3), (7, .int (ow_ v wo 1)), (5, .int (dM_ v wo)), (4, .int (dT_ v wo)), (0, .ref (α 0)), (1, .int 1), (2, .int need), (3, .int wo)]) S.1 S.2.1 dL_isDue_180 hl (by decide) rfl (fun ls hl => ?_)
        refine lv_iinc (v := 4) (lv' := [(8, .int 4), (6, .int 1), (9, .int (ow_ v wo 3)), (7, .int (ow_ v wo 1)), (5, .int (dM_ v wo)), (4, .int (dT_ v wo)), (0, .ref (α 0)), (1, .int 1), (2, .int need), (3, .int wo)]) S.1 S.2.1 dL_isDue_182 hl (k := 2) rfl (by decide) (by decide) rfl (fun ls hl => ?_)
        refine lv_goto (tgt := 123) S.1 S.2.1 dL_isDue_185 (by decide) ?_
        refine lv_iload S.1 S.2.1 dL_isDue_123 (lv_at hl 0 rfl) ?_
        refine lv_iconst (v := 4) S.1 S.2.1 dL_isDue_125 (by decide) ?_
        refine lv_icmp_ge (tgt := 188) S.1 S.2.1 dL_isDue_126 (by decide) (fun _ => ?_) (fun z9 => absurd (by decide) z9)
        refine lv_iload S.1 S.2.1 dL_isDue_188 (lv_at hl 1 rfl) ?_
        exact g_nretR S hr hlk hS (by decide) rfl dL_isDue_190
      refine lv_icmp_lt (tgt := 175) S.1 S.2.1 dL_isDue_159 (by decide) (fun c => ?_) (fun c => ?_)
      · exact k3 _ _ hS hl
      · refine lv_iload S.1 S.2.1 dL_isDue_162 (lv_at hl 3 rfl) ?_
        refine x_aftR (st1 := [.int ((ow_ v wo 1) &&& -(ow_ v wo 1))]) (x_St (As := [.int (ow_ v wo 1)]) (rest := []) S ms_J6_lowestOneBit_0f7a4 qw1380 (x_J6_lowestOneBit_0f7a4 l D A w (ow_ v wo 1)) stX_t hK hP hD (hE.kept hS.2.1) trivial rfl rfl hl.1 (Nat.le_of_ble_eq_true rfl) rfl rfl ⟨(Nat.le_of_ble_eq_true rfl), (Nat.le_of_ble_eq_true rfl)⟩ ⟨(Nat.le_of_ble_eq_true rfl), (Nat.le_of_ble_eq_true rfl)⟩ dL_isDue_164) hS (fun _ h => h) rfl (fun locs hS => ?_)
        rw [show ((ow_ v wo 1) &&& -(ow_ v wo 1)) = (lo_ v wo 1) from rfl]
        refine lv_iload S.1 S.2.1 dL_isDue_167 (lv_at hl 0 rfl) ?_
        refine x_aftR (st1 := [.int ((ow_ v wo 3) &&& -(ow_ v wo 3)), .int (lo_ v wo 1)]) (x_St (As := [.int (ow_ v wo 3)]) (rest := [.int (lo_ v wo 1)]) S ms_J6_lowestOneBit_0f7a4 qw1380 (x_J6_lowestOneBit_0f7a4 l D A w (ow_ v wo 3)) stX_t hK hP hD (hE.kept hS.2.1) trivial rfl rfl hl.1 (Nat.le_of_ble_eq_true rfl) rfl rfl ⟨(Nat.le_of_ble_eq_true rfl), (Nat.le_of_ble_eq_true rfl)⟩ ⟨(Nat.le_of_ble_eq_true rfl), (Nat.le_of_ble_eq_true rfl)⟩ dL_isDue_169) hS (fun _ h => h) rfl (fun locs hS => ?_)
        rw [show ((ow_ v wo 3) &&& -(ow_ v wo 3)) = (lo_ v wo 3) from rfl]
        refine lv_icmp_ge (tgt := 179) S.1 S.2.1 dL_isDue_172 (by decide) (fun z9 => absurd z9 (Int32.not_le.mpr (((h3 3 (by decide)).resolve_left (by decide)).resolve_left c))) (fun _ => ?_)
        exact k3 _ _ hS hl
    refine lv_icmp_lt (tgt := 175) S.1 S.2.1 dL_isDue_159 (by decide) (fun c => ?_) (fun c => ?_)
    · exact k2 _ _ hS hl
    · refine lv_iload S.1 S.2.1 dL_isDue_162 (lv_at hl 3 rfl) ?_
      refine x_aftR (st1 := [.int ((ow_ v wo 1) &&& -(ow_ v wo 1))]) (x_St (As := [.int (ow_ v wo 1)]) (rest := []) S ms_J6_lowestOneBit_0f7a4 qw1380 (x_J6_lowestOneBit_0f7a4 l D A w (ow_ v wo 1)) stX_t hK hP hD (hE.kept hS.2.1) trivial rfl rfl hl.1 (Nat.le_of_ble_eq_true rfl) rfl rfl ⟨(Nat.le_of_ble_eq_true rfl), (Nat.le_of_ble_eq_true rfl)⟩ ⟨(Nat.le_of_ble_eq_true rfl), (Nat.le_of_ble_eq_true rfl)⟩ dL_isDue_164) hS (fun _ h => h) rfl (fun locs hS => ?_)
      rw [show ((ow_ v wo 1) &&& -(ow_ v wo 1)) = (lo_ v wo 1) from rfl]
      refine lv_iload S.1 S.2.1 dL_isDue_167 (lv_at hl 0 rfl) ?_
      refine x_aftR (st1 := [.int ((ow_ v wo 2) &&& -(ow_ v wo 2)), .int (lo_ v wo 1)]) (x_St (As := [.int (ow_ v wo 2)]) (rest := [.int (lo_ v wo 1)]) S ms_J6_lowestOneBit_0f7a4 qw1380 (x_J6_lowestOneBit_0f7a4 l D A w (ow_ v wo 2)) stX_t hK hP hD (hE.kept hS.2.1) trivial rfl rfl hl.1 (Nat.le_of_ble_eq_true rfl) rfl rfl ⟨(Nat.le_of_ble_eq_true rfl), (Nat.le_of_ble_eq_true rfl)⟩ ⟨(Nat.le_of_ble_eq_true rfl), (Nat.le_of_ble_eq_true rfl)⟩ dL_isDue_169) hS (fun _ h => h) rfl (fun locs hS => ?_)
      rw [show ((ow_ v wo 2) &&& -(ow_ v wo 2)) = (lo_ v wo 2) from rfl]
      refine lv_icmp_ge (tgt := 179) S.1 S.2.1 dL_isDue_172 (by decide) (fun z9 => absurd z9 (Int32.not_le.mpr (((h3 2 (by decide)).resolve_left (by decide)).resolve_left c))) (fun _ => ?_)
      exact k2 _ _ hS hl
  refine lv_icmp_lt (tgt := 175) S.1 S.2.1 dL_isDue_159 (by decide) (fun c => ?_) (fun c => ?_)
  · exact k0 _ _ hS hl
  · refine lv_iload S.1 S.2.1 dL_isDue_162 (lv_at hl 2 rfl) ?_
    refine x_aftR (st1 := [.int ((ow_ v wo 1) &&& -(ow_ v wo 1))]) (x_St (As := [.int (ow_ v wo 1)]) (rest := []) S ms_J6_lowestOneBit_0f7a4 qw1380 (x_J6_lowestOneBit_0f7a4 l D A w (ow_ v wo 1)) stX_t hK hP hD (hE.kept hS.2.1) trivial rfl rfl hl.1 (Nat.le_of_ble_eq_true rfl) rfl rfl ⟨(Nat.le_of_ble_eq_true rfl), (Nat.le_of_ble_eq_true rfl)⟩ ⟨(Nat.le_of_ble_eq_true rfl), (Nat.le_of_ble_eq_true rfl)⟩ dL_isDue_164) hS (fun _ h => h) rfl (fun locs hS => ?_)
    rw [show ((ow_ v wo 1) &&& -(ow_ v wo 1)) = (lo_ v wo 1) from rfl]
    refine lv_iload S.1 S.2.1 dL_isDue_167 (lv_at hl 0 rfl) ?_
    refine x_aftR (st1 := [.int ((ow_ v wo 0) &&& -(ow_ v wo 0)), .int (lo_ v wo 1)]) (x_St (As := [.int (ow_ v wo 0)]) (rest := [.int (lo_ v wo 1)]) S ms_J6_lowestOneBit_0f7a4 qw1380 (x_J6_lowestOneBit_0f7a4 l D A w (ow_ v wo 0)) stX_t hK hP hD (hE.kept hS.2.1) trivial rfl rfl hl.1 (Nat.le_of_ble_eq_true rfl) rfl rfl ⟨(Nat.le_of_ble_eq_true rfl), (Nat.le_of_ble_eq_true rfl)⟩ ⟨(Nat.le_of_ble_eq_true rfl), (Nat.le_of_ble_eq_true rfl)⟩ dL_isDue_169) hS (fun _ h => h) rfl (fun locs hS => ?_)
    rw [show ((ow_ v wo 0) &&& -(ow_ v wo 0)) = (lo_ v wo 0) from rfl]
    refine lv_icmp_ge (tgt := 179) S.1 S.2.1 dL_isDue_172 (by decide) (fun z9 => absurd z9 (Int32.not_le.mpr (((h3 0 (by decide)).resolve_left (by decide)).resolve_left c))) (fun _ => ?_)
    exact k0 _ _ hS hl
set_option maxHeartbeats 4000000 in
set_option maxRecDepth 100000 in
theorem l_isDue_2 (l : Launch) (D : va_G) (A : Nat → Prop) (w : va_W) (α : Nat → Nat) {v : VT} (hB : OB D α w v) (need wo : Int32) (h1 : need ≤ dT_ v wo) (h2 : cb_ v wo 2 = dM_ v wo) (h3 : ∀ b : Int32, b = 0 ∨ b = 1 ∨ b = 2 ∨ b = 3 → b = 2 ∨ cb_ v wo b < dM_ v wo ∨ lo_ v wo 2 < lo_ v wo b) : Met l yL_isDue (ws_ yL_isDue cL_isDue 10 (Option.some Jvm.ClassFile.FieldType.boolean)) ({ frames := 4, cells := 0, slots := 0, locals := 110 } : Room) (gPre D A [.ref (α 0), .int 2, .int need, .int wo] w) (gR (some (.int 1))) 0 0 A := by
  refine g_met [(0, .ref (α 0)), (1, .int 2), (2, .int need), (3, .int wo)] (by decide +kernel) (Nat.le_of_ble_eq_true rfl) rfl (fun pg en s mi ar below me co ls S hK hP hD hE hS hr hlk hnm hl => ?_)
  refine lv_iconst (v := 0) S.1 S.2.1 dL_isDue_0 (by decide) ?_
  refine lv_istore (lv' := [(4, .int 0), (0, .ref (α 0)), (1, .int 2), (2, .int need), (3, .int wo)]) S.1 S.2.1 dL_isDue_1 hl (by decide) rfl (fun ls hl => ?_)
  refine lv_iconst (v := 0) S.1 S.2.1 dL_isDue_3 (by decide) ?_
  refine lv_istore (lv' := [(5, .int 0), (4, .int 0), (0, .ref (α 0)), (1, .int 2), (2, .int need), (3, .int wo)]) S.1 S.2.1 dL_isDue_4 hl (by decide) rfl (fun ls hl => ?_)
  refine lv_iconst (v := 0) S.1 S.2.1 dL_isDue_6 (by decide) ?_
  refine lv_istore (lv' := [(6, .int 0), (5, .int 0), (4, .int 0), (0, .ref (α 0)), (1, .int 2), (2, .int need), (3, .int wo)]) S.1 S.2.1 dL_isDue_7 hl (by decide) rfl (fun ls hl => ?_)
  refine lv_iload S.1 S.2.1 dL_isDue_9 (lv_at hl 0 rfl) ?_
  refine lv_iconst (v := 4) S.1 S.2.1 dL_isDue_11 (by decide) ?_
  refine lv_icmp_ge (tgt := 52) S.1 S.2.1 dL_isDue_12 (by decide) (fun z9 => absurd z9 (by decide)) (fun _ => ?_)
  refine lv_aload_n S.1 S.2.1 dL_isDue_15 rfl (lv_at hl 3 rfl) ?_
  refine lv_iload S.1 S.2.1 dL_isDue_16 (lv_at hl 0 rfl) ?_
  refine x_aftR (st1 := [.int (a_owners v (0 : Int32))]) (x_V0 (As := [.int 0]) (rest := []) S mi_X11_owners qw1313 (k_owners l D A w α (0 : Int32) hB) hK hP hD (hE.kept hS.2.1) (hB.recv hK hP) rfl rfl hl.1 (Nat.le_of_ble_eq_true rfl) rfl rfl ⟨(Nat.le_of_ble_eq_true rfl), (Nat.le_of_ble_eq_true rfl)⟩ ⟨(Nat.le_of_ble_eq_true rfl), (Nat.le_of_ble_eq_true rfl)⟩ dL_isDue_18) hS (fun _ h => h) rfl (fun locs hS => ?_)
  refine lv_iload_n S.1 S.2.1 dL_isDue_21 rfl (lv_at hl 6 rfl) ?_
  refine lv_iconst (v := (-1)) S.1 S.2.1 dL_isDue_22 (by decide) ?_
  refine lv_ixor S.1 S.2.1 dL_isDue_23 ?_
  refine lv_iand S.1 S.2.1 dL_isDue_24 ?_
  rw [show ((a_owners v (0 : Int32)) &&& (wo ^^^ (-1))) = (ow_ v wo 0) from rfl]
  refine x_aftR (st1 := [.int (f_J6_bitCount_0f7a4 (ow_ v wo 0))]) (x_St0 (As := [.int (ow_ v wo 0)]) (rest := []) S ms_J6_bitCount_0f7a4 qw1318 (c_J6_bitCount_0f7a4 l D A w α (ow_ v wo 0)) hK hP hD (hE.kept hS.2.1) rfl rfl hl.1 (Nat.le_of_ble_eq_true rfl) rfl rfl ⟨(Nat.le_of_ble_eq_true rfl), (Nat.le_of_ble_eq_true rfl)⟩ ⟨(Nat.le_of_ble_eq_true rfl), (Nat.le_of_ble_eq_true rfl)⟩ dL_isDue_25) hS (fun _ h => h) rfl (fun locs hS => ?_)
  rw [show (f_J6_bitCount_0f7a4 (ow_ v wo 0)) = (cb_ v wo 0) from rfl]
  refine lv_istore (lv' := [(7, .int (cb_ v wo 0)), (6, .int 0), (5, .int 0), (4, .int 0), (0, .ref (α 0)), (1, .int 2), (2, .int need), (3, .int wo)]) S.1 S.2.1 dL_isDue_28 hl (by decide) rfl (fun ls hl => ?_)
  refine lv_iload S.1 S.2.1 dL_isDue_30 (lv_at hl 3 rfl) ?_
  refine lv_iload S.1 S.2.1 dL_isDue_32 (lv_at hl 0 rfl) ?_
  refine lv_iadd S.1 S.2.1 dL_isDue_34 ?_
  refine lv_istore (lv' := [(4, .int ((0 : Int32) + (cb_ v wo 0))), (7, .int (cb_ v wo 0)), (6, .int 0), (5, .int 0), (0, .ref (α 0)), (1, .int 2), (2, .int need), (3, .int wo)]) S.1 S.2.1 dL_isDue_35 hl (by decide) rfl (fun ls hl => ?_)
  refine lv_iload S.1 S.2.1 dL_isDue_37 (lv_at hl 3 rfl) ?_
  refine lv_iload S.1 S.2.1 dL_isDue_39 (lv_at hl 1 rfl) ?_
  refine va_mmax S.1 S.2.1 (S.2.2.1.trans hl.1.symm) S.2.2.2.1 (S.2.2.2.2 _ qw1360) (S.2.2.2.2 _ qw45) (S.2.2.2.2 _ qw4) (S.2.2.2.2 _ qw46) (Nat.le_of_ble_eq_true rfl) (Nat.le_of_ble_eq_true rfl) (Nat.le_of_ble_eq_true rfl) (Nat.le_of_ble_eq_true rfl) dL_isDue_41 ?_
  rw [show (if (0 : Int32) < (cb_ v wo 0) then (cb_ v wo 0) else (0 : Int32)) = (mx (0 : Int32) (cb_ v wo 0)) from rfl]
  refine lv_istore (lv' := [(5, .int (mx (0 : Int32) (cb_ v wo 0))), (4, .int ((0 : Int32) + (cb_ v wo 0))), (7, .int (cb_ v wo 0)), (6, .int 0), (0, .ref (α 0)), (1, .int 2), (2, .int need), (3, .int wo)]) S.1 S.2.1 dL_isDue_44 hl (by decide) rfl (fun ls hl => ?_)
  refine lv_iinc (v := 1) (lv' := [(6, .int 1), (5, .int (mx (0 : Int32) (cb_ v wo 0))), (4, .int ((0 : Int32) + (cb_ v wo 0))), (7, .int (cb_ v wo 0)), (0, .ref (α 0)), (1, .int 2), (2, .int need), (3, .int wo)]) S.1 S.2.1 dL_isDue_46 hl (k := 3) rfl (by decide) (by decide) rfl (fun ls hl => ?_)
  refine lv_goto (tgt := 9) S.1 S.2.1 dL_isDue_49 (by decide) ?_
  refine lv_iload S.1 S.2.1 dL_isDue_9 (lv_at hl 0 rfl) ?_
  refine lv_iconst (v := 4) S.1 S.2.1 dL_isDue_11 (by decide) ?_
  refine lv_icmp_ge (tgt := 52) S.1 S.2.1 dL_isDue_12 (by decide) (fun z9 => absurd z9 (by decide)) (fun _ => ?_)
  refine lv_aload_n S.1 S.2.1 dL_isDue_15 rfl (lv_at hl 4 rfl) ?_
  refine lv_iload S.1 S.2.1 dL_isDue_16 (lv_at hl 0 rfl) ?_
  refine x_aftR (st1 := [.int (a_owners v (1 : Int32))]) (x_V0 (As := [.int 1]) (rest := []) S mi_X11_owners qw1313 (k_owners l D A w α (1 : Int32) hB) hK hP hD (hE.kept hS.2.1) (hB.recv hK hP) rfl rfl hl.1 (Nat.le_of_ble_eq_true rfl) rfl rfl ⟨(Nat.le_of_ble_eq_true rfl), (Nat.le_of_ble_eq_true rfl)⟩ ⟨(Nat.le_of_ble_eq_true rfl), (Nat.le_of_ble_eq_true rfl)⟩ dL_isDue_18) hS (fun _ h => h) rfl (fun locs hS => ?_)
  refine lv_iload_n S.1 S.2.1 dL_isDue_21 rfl (lv_at hl 7 rfl) ?_
  refine lv_iconst (v := (-1)) S.1 S.2.1 dL_isDue_22 (by decide) ?_
  refine lv_ixor S.1 S.2.1 dL_isDue_23 ?_
  refine lv_iand S.1 S.2.1 dL_isDue_24 ?_
  rw [show ((a_owners v (1 : Int32)) &&& (wo ^^^ (-1))) = (ow_ v wo 1) from rfl]
  refine x_aftR (st1 := [.int (f_J6_bitCount_0f7a4 (ow_ v wo 1))]) (x_St0 (As := [.int (ow_ v wo 1)]) (rest := []) S ms_J6_bitCount_0f7a4 qw1318 (c_J6_bitCount_0f7a4 l D A w α (ow_ v wo 1)) hK hP hD (hE.kept hS.2.1) rfl rfl hl.1 (Nat.le_of_ble_eq_true rfl) rfl rfl ⟨(Nat.le_of_ble_eq_true rfl), (Nat.le_of_ble_eq_true rfl)⟩ ⟨(Nat.le_of_ble_eq_true rfl), (Nat.le_of_ble_eq_true rfl)⟩ dL_isDue_25) hS (fun _ h => h) rfl (fun locs hS => ?_)
  rw [show (f_J6_bitCount_0f7a4 (ow_ v wo 1)) = (cb_ v wo 1) from rfl]
  refine lv_istore (lv' := [(7, .int (cb_ v wo 1)), (6, .int 1), (5, .int (mx (0 : Int32) (cb_ v wo 0))), (4, .int ((0 : Int32) + (cb_ v wo 0))), (0, .ref (α 0)), (1, .int 2), (2, .int need), (3, .int wo)]) S.1 S.2.1 dL_isDue_28 hl (by decide) rfl (fun ls hl => ?_)
  refine lv_iload S.1 S.2.1 dL_isDue_30 (lv_at hl 3 rfl) ?_
  refine lv_iload S.1 S.2.1 dL_isDue_32 (lv_at hl 0 rfl) ?_
  refine lv_iadd S.1 S.2.1 dL_isDue_34 ?_
  refine lv_istore (lv' := [(4, .int (((0 : Int32) + (cb_ v wo 0)) + (cb_ v wo 1))), (7, .int (cb_ v wo 1)), (6, .int 1), (5, .int (mx (0 : Int32) (cb_ v wo 0))), (0, .ref (α 0)), (1, .int 2), (2, .int need), (3, .int wo)]) S.1 S.2.1 dL_isDue_35 hl (by decide) rfl (fun ls hl => ?_)
  refine lv_iload S.1 S.2.1 dL_isDue_37 (lv_at hl 3 rfl) ?_
  refine lv_iload S.1 S.2.1 dL_isDue_39 (lv_at hl 1 rfl) ?_
  refine va_mmax S.1 S.2.1 (S.2.2.1.trans hl.1.symm) S.2.2.2.1 (S.2.2.2.2 _ qw1360) (S.2.2.2.2 _ qw45) (S.2.2.2.2 _ qw4) (S.2.2.2.2 _ qw46) (Nat.le_of_ble_eq_true rfl) (Nat.le_of_ble_eq_true rfl) (Nat.le_of_ble_eq_true rfl) (Nat.le_of_ble_eq_true rfl) dL_isDue_41 ?_
  rw [show (if (mx (0 : Int32) (cb_ v wo 0)) < (cb_ v wo 1) then (cb_ v wo 1) else (mx (0 : Int32) (cb_ v wo 0))) = (mx (mx (0 : Int32) (cb_ v wo 0)) (cb_ v wo 1)) from rfl]
  refine lv_istore (lv' := [(5, .int (mx (mx (0 : Int32) (cb_ v wo 0)) (cb_ v wo 1))), (4, .int (((0 : Int32) + (cb_ v wo 0)) + (cb_ v wo 1))), (7, .int (cb_ v wo 1)), (6, .int 1), (0, .ref (α 0)), (1, .int 2), (2, .int need), (3, .int wo)]) S.1 S.2.1 dL_isDue_44 hl (by decide) rfl (fun ls hl => ?_)
  refine lv_iinc (v := 2) (lv' := [(6, .int 2), (5, .int (mx (mx (0 : Int32) (cb_ v wo 0)) (cb_ v wo 1))), (4, .int (((0 : Int32) + (cb_ v wo 0)) + (cb_ v wo 1))), (7, .int (cb_ v wo 1)), (0, .ref (α 0)), (1, .int 2), (2, .int need), (3, .int wo)]) S.1 S.2.1 dL_isDue_46 hl (k := 3) rfl (by decide) (by decide) rfl (fun ls hl => ?_)
  refine lv_goto (tgt := 9) S.1 S.2.1 dL_isDue_49 (by decide) ?_
  refine lv_iload S.1 S.2.1 dL_isDue_9 (lv_at hl 0 rfl) ?_
  refine lv_iconst (v := 4) S.1 S.2.1 dL_isDue_11 (by decide) ?_
  refine lv_icmp_ge (tgt := 52) S.1 S.2.1 dL_isDue_12 (by decide) (fun z9 => absurd z9 (by decide)) (fun _ => ?_)
  refine lv_aload_n S.1 S.2.1 dL_isDue_15 rfl (lv_at hl 4 rfl) ?_
  refine lv_iload S.1 S.2.1 dL_isDue_16 (lv_at hl 0 rfl) ?_
  refine x_aftR (st1 := [.int (a_owners v (2 : Int32))]) (x_V0 (As := [.int 2]) (rest := []) S mi_X11_owners qw1313 (k_owners l D A w α (2 : Int32) hB) hK hP hD (hE.kept hS.2.1) (hB.recv hK hP) rfl rfl hl.1 (Nat.le_of_ble_eq_true rfl) rfl rfl ⟨(Nat.le_of_ble_eq_true rfl), (Nat.le_of_ble_eq_true rfl)⟩ ⟨(Nat.le_of_ble_eq_true rfl), (Nat.le_of_ble_eq_true rfl)⟩ dL_isDue_18) hS (fun _ h => h) rfl (fun locs hS => ?_)
  refine lv_iload_n S.1 S.2.1 dL_isDue_21 rfl (lv_at hl 7 rfl) ?_
  refine lv_iconst (v := (-1)) S.1 S.2.1 dL_isDue_22 (by decide) ?_
  refine lv_ixor S.1 S.2.1 dL_isDue_23 ?_
  refine lv_iand S.1 S.2.1 dL_isDue_24 ?_
  rw [show ((a_owners v (2 : Int32)) &&& (wo ^^^ (-1))) = (ow_ v wo 2) from rfl]
  refine x_aftR (st1 := [.int (f_J6_bitCount_0f7a4 (ow_ v wo 2))]) (x_St0 (As := [.int (ow_ v wo 2)]) (rest := []) S ms_J6_bitCount_0f7a4 qw1318 (c_J6_bitCount_0f7a4 l D A w α (ow_ v wo 2)) hK hP hD (hE.kept hS.2.1) rfl rfl hl.1 (Nat.le_of_ble_eq_true rfl) rfl rfl ⟨(Nat.le_of_ble_eq_true rfl), (Nat.le_of_ble_eq_true rfl)⟩ ⟨(Nat.le_of_ble_eq_true rfl), (Nat.le_of_ble_eq_true rfl)⟩ dL_isDue_25) hS (fun _ h => h) rfl (fun locs hS => ?_)
  rw [show (f_J6_bitCount_0f7a4 (ow_ v wo 2)) = (cb_ v wo 2) from rfl]
  refine lv_istore (lv' := [(7, .int (cb_ v wo 2)), (6, .int 2), (5, .int (mx (mx (0 : Int32) (cb_ v wo 0)) (cb_ v wo 1))), (4, .int (((0 : Int32) + (cb_ v wo 0)) + (cb_ v wo 1))), (0, .ref (α 0)), (1, .int 2), (2, .int need), (3, .int wo)]) S.1 S.2.1 dL_isDue_28 hl (by decide) rfl (fun ls hl => ?_)
  refine lv_iload S.1 S.2.1 dL_isDue_30 (lv_at hl 3 rfl) ?_
  refine lv_iload S.1 S.2.1 dL_isDue_32 (lv_at hl 0 rfl) ?_
  refine lv_iadd S.1 S.2.1 dL_isDue_34 ?_
  refine lv_istore (lv' := [(4, .int ((((0 : Int32) + (cb_ v wo 0)) + (cb_ v wo 1)) + (cb_ v wo 2))), (7, .int (cb_ v wo 2)), (6, .int 2), (5, .int (mx (mx (0 : Int32) (cb_ v wo 0)) (cb_ v wo 1))), (0, .ref (α 0)), (1, .int 2), (2, .int need), (3, .int wo)]) S.1 S.2.1 dL_isDue_35 hl (by decide) rfl (fun ls hl => ?_)
  refine lv_iload S.1 S.2.1 dL_isDue_37 (lv_at hl 3 rfl) ?_
  refine lv_iload S.1 S.2.1 dL_isDue_39 (lv_at hl 1 rfl) ?_
  refine va_mmax S.1 S.2.1 (S.2.2.1.trans hl.1.symm) S.2.2.2.1 (S.2.2.2.2 _ qw1360) (S.2.2.2.2 _ qw45) (S.2.2.2.2 _ qw4) (S.2.2.2.2 _ qw46) (Nat.le_of_ble_eq_true rfl) (Nat.le_of_ble_eq_true rfl) (Nat.le_of_ble_eq_true rfl) (Nat.le_of_ble_eq_true rfl) dL_isDue_41 ?_
  rw [show (if (mx (mx (0 : Int32) (cb_ v wo 0)) (cb_ v wo 1)) < (cb_ v wo 2) then (cb_ v wo 2) else (mx (mx (0 : Int32) (cb_ v wo 0)) (cb_ v wo 1))) = (mx (mx (mx (0 : Int32) (cb_ v wo 0)) (cb_ v wo 1)) (cb_ v wo 2)) from rfl]
  refine lv_istore (lv' := [(5, .int (mx (mx (mx (0 : Int32) (cb_ v wo 0)) (cb_ v wo 1)) (cb_ v wo 2))), (4, .int ((((0 : Int32) + (cb_ v wo 0)) + (cb_ v wo 1)) + (cb_ v wo 2))), (7, .int (cb_ v wo 2)), (6, .int 2), (0, .ref (α 0)), (1, .int 2), (2, .int need), (3, .int wo)]) S.1 S.2.1 dL_isDue_44 hl (by decide) rfl (fun ls hl => ?_)
  refine lv_iinc (v := 3) (lv' := [(6, .int 3), (5, .int (mx (mx (mx (0 : Int32) (cb_ v wo 0)) (cb_ v wo 1)) (cb_ v wo 2))), (4, .int ((((0 : Int32) + (cb_ v wo 0)) + (cb_ v wo 1)) + (cb_ v wo 2))), (7, .int (cb_ v wo 2)), (0, .ref (α 0)), (1, .int 2), (2, .int need), (3, .int wo)]) S.1 S.2.1 dL_isDue_46 hl (k := 3) rfl (by decide) (by decide) rfl (fun ls hl => ?_)
  refine lv_goto (tgt := 9) S.1 S.2.1 dL_isDue_49 (by decide) ?_
  refine lv_iload S.1 S.2.1 dL_isDue_9 (lv_at hl 0 rfl) ?_
  refine lv_iconst (v := 4) S.1 S.2.1 dL_isDue_11 (by decide) ?_
  refine lv_icmp_ge (tgt := 52) S.1 S.2.1 dL_isDue_12 (by decide) (fun z9 => absurd z9 (by decide)) (fun _ => ?_)
  refine lv_aload_n S.1 S.2.1 dL_isDue_15 rfl (lv_at hl 4 rfl) ?_
  refine lv_iload S.1 S.2.1 dL_isDue_16 (lv_at hl 0 rfl) ?_
  refine x_aftR (st1 := [.int (a_owners v (3 : Int32))]) (x_V0 (As := [.int 3]) (rest := []) S mi_X11_owners qw1313 (k_owners l D A w α (3 : Int32) hB) hK hP hD (hE.kept hS.2.1) (hB.recv hK hP) rfl rfl hl.1 (Nat.le_of_ble_eq_true rfl) rfl rfl ⟨(Nat.le_of_ble_eq_true rfl), (Nat.le_of_ble_eq_true rfl)⟩ ⟨(Nat.le_of_ble_eq_true rfl), (Nat.le_of_ble_eq_true rfl)⟩ dL_isDue_18) hS (fun _ h => h) rfl (fun locs hS => ?_)
  refine lv_iload_n S.1 S.2.1 dL_isDue_21 rfl (lv_at hl 7 rfl) ?_
  refine lv_iconst (v := (-1)) S.1 S.2.1 dL_isDue_22 (by decide) ?_
  refine lv_ixor S.1 S.2.1 dL_isDue_23 ?_
  refine lv_iand S.1 S.2.1 dL_isDue_24 ?_
  rw [show ((a_owners v (3 : Int32)) &&& (wo ^^^ (-1))) = (ow_ v wo 3) from rfl]
  refine x_aftR (st1 := [.int (f_J6_bitCount_0f7a4 (ow_ v wo 3))]) (x_St0 (As := [.int (ow_ v wo 3)]) (rest := []) S ms_J6_bitCount_0f7a4 qw1318 (c_J6_bitCount_0f7a4 l D A w α (ow_ v wo 3)) hK hP hD (hE.kept hS.2.1) rfl rfl hl.1 (Nat.le_of_ble_eq_true rfl) rfl rfl ⟨(Nat.le_of_ble_eq_true rfl), (Nat.le_of_ble_eq_true rfl)⟩ ⟨(Nat.le_of_ble_eq_true rfl), (Nat.le_of_ble_eq_true rfl)⟩ dL_isDue_25) hS (fun _ h => h) rfl (fun locs hS => ?_)
  rw [show (f_J6_bitCount_0f7a4 (ow_ v wo 3)) = (cb_ v wo 3) from rfl]
  refine lv_istore (lv' := [(7, .int (cb_ v wo 3)), (6, .int 3), (5, .int (mx (mx (mx (0 : Int32) (cb_ v wo 0)) (cb_ v wo 1)) (cb_ v wo 2))), (4, .int ((((0 : Int32) + (cb_ v wo 0)) + (cb_ v wo 1)) + (cb_ v wo 2))), (0, .ref (α 0)), (1, .int 2), (2, .int need), (3, .int wo)]) S.1 S.2.1 dL_isDue_28 hl (by decide) rfl (fun ls hl => ?_)
  refine lv_iload S.1 S.2.1 dL_isDue_30 (lv_at hl 3 rfl) ?_
  refine lv_iload S.1 S.2.1 dL_isDue_32 (lv_at hl 0 rfl) ?_
  refine lv_iadd S.1 S.2.1 dL_isDue_34 ?_
  rw [show (((((0 : Int32) + (cb_ v wo 0)) + (cb_ v wo 1)) + (cb_ v wo 2)) + (cb_ v wo 3)) = dT_ v wo from rfl]
  refine lv_istore (lv' := [(4, .int (dT_ v wo)), (7, .int (cb_ v wo 3)), (6, .int 3), (5, .int (mx (mx (mx (0 : Int32) (cb_ v wo 0)) (cb_ v wo 1)) (cb_ v wo 2))), (0, .ref (α 0)), (1, .int 2), (2, .int need), (3, .int wo)]) S.1 S.2.1 dL_isDue_35 hl (by decide) rfl (fun ls hl => ?_)
  refine lv_iload S.1 S.2.1 dL_isDue_37 (lv_at hl 3 rfl) ?_
  refine lv_iload S.1 S.2.1 dL_isDue_39 (lv_at hl 1 rfl) ?_
  refine va_mmax S.1 S.2.1 (S.2.2.1.trans hl.1.symm) S.2.2.2.1 (S.2.2.2.2 _ qw1360) (S.2.2.2.2 _ qw45) (S.2.2.2.2 _ qw4) (S.2.2.2.2 _ qw46) (Nat.le_of_ble_eq_true rfl) (Nat.le_of_ble_eq_true rfl) (Nat.le_of_ble_eq_true rfl) (Nat.le_of_ble_eq_true rfl) dL_isDue_41 ?_
  rw [show (if (mx (mx (mx (0 : Int32) (cb_ v wo 0)) (cb_ v wo 1)) (cb_ v wo 2)) < (cb_ v wo 3) then (cb_ v wo 3) else (mx (mx (mx (0 : Int32) (cb_ v wo 0)) (cb_ v wo 1)) (cb_ v wo 2))) = (mx (mx (mx (mx (0 : Int32) (cb_ v wo 0)) (cb_ v wo 1)) (cb_ v wo 2)) (cb_ v wo 3)) from rfl]
  rw [show (mx (mx (mx (mx (0 : Int32) (cb_ v wo 0)) (cb_ v wo 1)) (cb_ v wo 2)) (cb_ v wo 3)) = (dM_ v wo) from rfl]
  refine lv_istore (lv' := [(5, .int (dM_ v wo)), (4, .int (dT_ v wo)), (7, .int (cb_ v wo 3)), (6, .int 3), (0, .ref (α 0)), (1, .int 2), (2, .int need), (3, .int wo)]) S.1 S.2.1 dL_isDue_44 hl (by decide) rfl (fun ls hl => ?_)
  refine lv_iinc (v := 4) (lv' := [(6, .int 4), (5, .int (dM_ v wo)), (4, .int (dT_ v wo)), (7, .int (cb_ v wo 3)), (0, .ref (α 0)), (1, .int 2), (2, .int need), (3, .int wo)]) S.1 S.2.1 dL_isDue_46 hl (k := 3) rfl (by decide) (by decide) rfl (fun ls hl => ?_)
  refine lv_goto (tgt := 9) S.1 S.2.1 dL_isDue_49 (by decide) ?_
  refine lv_iload S.1 S.2.1 dL_isDue_9 (lv_at hl 0 rfl) ?_
  refine lv_iconst (v := 4) S.1 S.2.1 dL_isDue_11 (by decide) ?_
  refine lv_icmp_ge (tgt := 52) S.1 S.2.1 dL_isDue_12 (by decide) (fun _ => ?_) (fun z9 => absurd (by decide) z9)
  refine lv_iload_n S.1 S.2.1 dL_isDue_52 rfl (lv_at hl 5 rfl) ?_
  refine lv_if_ge (tgt := 79) S.1 S.2.1 dL_isDue_53 (by decide) (fun _ => ?_) (fun z9 => absurd (by decide) z9)
  refine lv_iload S.1 S.2.1 dL_isDue_79 (lv_at hl 2 rfl) ?_
  refine lv_iload_n S.1 S.2.1 dL_isDue_81 rfl (lv_at hl 6 rfl) ?_
  refine lv_icmp_lt (tgt := 106) S.1 S.2.1 dL_isDue_82 (by decide) (fun z9 => absurd z9 (fun z9 => absurd h1 (Int32.not_le.mpr z9))) (fun _ => ?_)
  refine lv_aload_n S.1 S.2.1 dL_isDue_85 rfl (lv_at hl 4 rfl) ?_
  refine lv_iload_n S.1 S.2.1 dL_isDue_86 rfl (lv_at hl 5 rfl) ?_
  refine x_aftR (st1 := [.int (a_owners v (2 : Int32))]) (x_V0 (As := [.int 2]) (rest := []) S mi_X11_owners qw1313 (k_owners l D A w α (2 : Int32) hB) hK hP hD (hE.kept hS.2.1) (hB.recv hK hP) rfl rfl hl.1 (Nat.le_of_ble_eq_true rfl) rfl rfl ⟨(Nat.le_of_ble_eq_true rfl), (Nat.le_of_ble_eq_true rfl)⟩ ⟨(Nat.le_of_ble_eq_true rfl), (Nat.le_of_ble_eq_true rfl)⟩ dL_isDue_87) hS (fun _ h => h) rfl (fun locs hS => ?_)
  refine lv_iload_n S.1 S.2.1 dL_isDue_90 rfl (lv_at hl 7 rfl) ?_
  refine lv_iconst (v := (-1)) S.1 S.2.1 dL_isDue_91 (by decide) ?_
  refine lv_ixor S.1 S.2.1 dL_isDue_92 ?_
  refine lv_iand S.1 S.2.1 dL_isDue_93 ?_
  rw [show ((a_owners v (2 : Int32)) &&& (wo ^^^ (-1))) = (ow_ v wo 2) from rfl]
  refine x_aftR (st1 := [.int (f_J6_bitCount_0f7a4 (ow_ v wo 2))]) (x_St0 (As := [.int (ow_ v wo 2)]) (rest := []) S ms_J6_bitCount_0f7a4 qw1318 (c_J6_bitCount_0f7a4 l D A w α (ow_ v wo 2)) hK hP hD (hE.kept hS.2.1) rfl rfl hl.1 (Nat.le_of_ble_eq_true rfl) rfl rfl ⟨(Nat.le_of_ble_eq_true rfl), (Nat.le_of_ble_eq_true rfl)⟩ ⟨(Nat.le_of_ble_eq_true rfl), (Nat.le_of_ble_eq_true rfl)⟩ dL_isDue_94) hS (fun _ h => h) rfl (fun locs hS => ?_)
  rw [show (f_J6_bitCount_0f7a4 (ow_ v wo 2)) = (cb_ v wo 2) from rfl]
  refine lv_iload S.1 S.2.1 dL_isDue_97 (lv_at hl 1 rfl) ?_
  refine lv_icmp_ne (tgt := 106) S.1 S.2.1 dL_isDue_99 (by decide) (fun z9 => absurd (h2) z9) (fun _ => ?_)
  refine lv_iconst (v := 1) S.1 S.2.1 dL_isDue_102 (by decide) ?_
  refine lv_goto (tgt := 107) S.1 S.2.1 dL_isDue_103 (by decide) ?_
  refine lv_istore (lv' := [(6, .int 1), (5, .int (dM_ v wo)), (4, .int (dT_ v wo)), (7, .int (cb_ v wo 3)), (0, .ref (α 0)), (1, .int 2), (2, .int need), (3, .int wo)]) S.1 S.2.1 dL_isDue_107 hl (by decide) rfl (fun ls hl => ?_)
  refine lv_aload_n S.1 S.2.1 dL_isDue_109 rfl (lv_at hl 4 rfl) ?_
  refine lv_iload_n S.1 S.2.1 dL_isDue_110 rfl (lv_at hl 5 rfl) ?_
  refine x_aftR (st1 := [.int (a_owners v (2 : Int32))]) (x_V0 (As := [.int 2]) (rest := []) S mi_X11_owners qw1313 (k_owners l D A w α (2 : Int32) hB) hK hP hD (hE.kept hS.2.1) (hB.recv hK hP) rfl rfl hl.1 (Nat.le_of_ble_eq_true rfl) rfl rfl ⟨(Nat.le_of_ble_eq_true rfl), (Nat.le_of_ble_eq_true rfl)⟩ ⟨(Nat.le_of_ble_eq_true rfl), (Nat.le_of_ble_eq_true rfl)⟩ dL_isDue_111) hS (fun _ h => h) rfl (fun locs hS => ?_)
  refine lv_iload_n S.1 S.2.1 dL_isDue_114 rfl (lv_at hl 7 rfl) ?_
  refine lv_iconst (v := (-1)) S.1 S.2.1 dL_isDue_115 (by decide) ?_
  refine lv_ixor S.1 S.2.1 dL_isDue_116 ?_
  refine lv_iand S.1 S.2.1 dL_isDue_117 ?_
  rw [show ((a_owners v (2 : Int32)) &&& (wo ^^^ (-1))) = (ow_ v wo 2) from rfl]
  refine lv_istore (lv' := [(7, .int (ow_ v wo 2)), (6, .int 1), (5, .int (dM_ v wo)), (4, .int (dT_ v wo)), (0, .ref (α 0)), (1, .int 2), (2, .int need), (3, .int wo)]) S.1 S.2.1 dL_isDue_118 hl (by decide) rfl (fun ls hl => ?_)
  refine lv_iconst (v := 0) S.1 S.2.1 dL_isDue_120 (by decide) ?_
  refine lv_istore (lv' := [(8, .int 0), (7, .int (ow_ v wo 2)), (6, .int 1), (5, .int (dM_ v wo)), (4, .int (dT_ v wo)), (0, .ref (α 0)), (1, .int 2), (2, .int need), (3, .int wo)]) S.1 S.2.1 dL_isDue_121 hl (by decide) rfl (fun ls hl => ?_)
  refine lv_iload S.1 S.2.1 dL_isDue_123 (lv_at hl 0 rfl) ?_
  refine lv_iconst (v := 4) S.1 S.2.1 dL_isDue_125 (by decide) ?_
  refine lv_icmp_ge (tgt := 188) S.1 S.2.1 dL_isDue_126 (by decide) (fun z9 => absurd z9 (by decide)) (fun _ => ?_)
  refine lv_iload S.1 S.2.1 dL_isDue_129 (lv_at hl 2 rfl) ?_
  refine lv_if_eq (tgt := 188) S.1 S.2.1 dL_isDue_131 (by decide) (fun z9 => absurd z9 (by decide)) (fun _ => ?_)
  refine lv_aload_n S.1 S.2.1 dL_isDue_134 rfl (lv_at hl 5 rfl) ?_
  refine lv_iload S.1 S.2.1 dL_isDue_135 (lv_at hl 0 rfl) ?_
  refine x_aftR (st1 := [.int (a_owners v (0 : Int32))]) (x_V0 (As := [.int 0]) (rest := []) S mi_X11_owners qw1313 (k_owners l D A w α (0 : Int32) hB) hK hP hD (hE.kept hS.2.1) (hB.recv hK hP) rfl rfl hl.1 (Nat.le_of_ble_eq_true rfl) rfl rfl ⟨(Nat.le_of_ble_eq_true rfl), (Nat.le_of_ble_eq_true rfl)⟩ ⟨(Nat.le_of_ble_eq_true rfl), (Nat.le_of_ble_eq_true rfl)⟩ dL_isDue_137) hS (fun _ h => h) rfl (fun locs hS => ?_)
  refine lv_iload_n S.1 S.2.1 dL_isDue_140 rfl (lv_at hl 8 rfl) ?_
  refine lv_iconst (v := (-1)) S.1 S.2.1 dL_isDue_141 (by decide) ?_
  refine lv_ixor S.1 S.2.1 dL_isDue_142 ?_
  refine lv_iand S.1 S.2.1 dL_isDue_143 ?_
  rw [show ((a_owners v (0 : Int32)) &&& (wo ^^^ (-1))) = (ow_ v wo 0) from rfl]
  refine lv_istore (lv' := [(9, .int (ow_ v wo 0)), (8, .int 0), (7, .int (ow_ v wo 2)), (6, .int 1), (5, .int (dM_ v wo)), (4, .int (dT_ v wo)), (0, .ref (α 0)), (1, .int 2), (2, .int need), (3, .int wo)]) S.1 S.2.1 dL_isDue_144 hl (by decide) rfl (fun ls hl => ?_)
  refine lv_iload S.1 S.2.1 dL_isDue_146 (lv_at hl 1 rfl) ?_
  refine lv_iload_n S.1 S.2.1 dL_isDue_148 rfl (lv_at hl 7 rfl) ?_
  refine lv_icmp_eq (tgt := 175) S.1 S.2.1 dL_isDue_149 (by decide) (fun z9 => absurd z9 (by decide)) (fun _ => ?_)
  refine lv_iload S.1 S.2.1 dL_isDue_152 (lv_at hl 0 rfl) ?_
  refine x_aftR (st1 := [.int (f_J6_bitCount_0f7a4 (ow_ v wo 0))]) (x_St0 (As := [.int (ow_ v wo 0)]) (rest := []) S ms_J6_bitCount_0f7a4 qw1318 (c_J6_bitCount_0f7a4 l D A w α (ow_ v wo 0)) hK hP hD (hE.kept hS.2.1) rfl rfl hl.1 (Nat.le_of_ble_eq_true rfl) rfl rfl ⟨(Nat.le_of_ble_eq_true rfl), (Nat.le_of_ble_eq_true rfl)⟩ ⟨(Nat.le_of_ble_eq_true rfl), (Nat.le_of_ble_eq_true rfl)⟩ dL_isDue_154) hS (fun _ h => h) rfl (fun locs hS => ?_)
  rw [show (f_J6_bitCount_0f7a4 (ow_ v wo 0)) = (cb_ v wo 0) from rfl]
  refine lv_iload S.1 S.2.1 dL_isDue_157 (lv_at hl 4 rfl) ?_
  have k0 : ∀ (locs : List Loc) (ls : Array Slot), va_S A s.heap s.heap locs → lv_has ls 10 [(9, .int (ow_ v wo 0)), (8, .int 0), (7, .int (ow_ v wo 2)), (6, .int 1), (5, .int (dM_ v wo)), (4, .int (dT_ v wo)), (0, .ref (α 0)), (1, .int 2), (2, .int need), (3, .int wo)] → W pg l en ({ frames := 4, cells := 0, slots := 0, locals := 110 } : Room) s mi ar below me co s.heap locs 0 0 (MQ below (gR (some (.int 1))) ar s 0 0 A) (F0 mi 175 ls []) := by
    intro locs ls hS hl
    refine lv_iconst (v := 1) S.1 S.2.1 dL_isDue_175 (by decide) ?_
    refine lv_goto (tgt := 180) S.1 S.2.1 dL_isDue_176 (by decide) ?_
    refine lv_istore (lv' := [(6, .int 1), (9, .int (ow_ v wo 0)), (8, .int 0), (7, .int (ow_ v wo 2)), (5, .int (dM_ v wo)), (4, .int (dT_ v wo)), (0, .ref (α 0)), (1, .int 2), (2, .int need), (3, .int wo)]) S.1 S.2.1 dL_isDue_180 hl (by decide) rfl (fun ls hl => ?_)
    refine lv_iinc (v := 1) (lv' := [(8, .int 1), (6, .int 1), (9, .int (ow_ v wo 0)), (7, .int (ow_ v wo 2)), (5, .int (dM_ v wo)), (4, .int (dT_ v wo)), (0, .ref (α 0)), (1, .int 2), (2, .int need), (3, .int wo)]) S.1 S.2.1 dL_isDue_182 hl (k := 2) rfl (by decide) (by decide) rfl (fun ls hl => ?_)
    refine lv_goto (tgt := 123) S.1 S.2.1 dL_isDue_185 (by decide) ?_
    refine lv_iload S.1 S.2.1 dL_isDue_123 (lv_at hl 0 rfl) ?_
    refine lv_iconst (v := 4) S.1 S.2.1 dL_isDue_125 (by decide) ?_
    refine lv_icmp_ge (tgt := 188) S.1 S.2.1 dL_isDue_126 (by decide) (fun z9 => absurd z9 (by decide)) (fun _ => ?_)
    refine lv_iload S.1 S.2.1 dL_isDue_129 (lv_at hl 1 rfl) ?_
    refine lv_if_eq (tgt := 188) S.1 S.2.1 dL_isDue_131 (by decide) (fun z9 => absurd z9 (by decide)) (fun _ => ?_)
    refine lv_aload_n S.1 S.2.1 dL_isDue_134 rfl (lv_at hl 6 rfl) ?_
    refine lv_iload S.1 S.2.1 dL_isDue_135 (lv_at hl 0 rfl) ?_
    refine x_aftR (st1 := [.int (a_owners v (1 : Int32))]) (x_V0 (As := [.int 1]) (rest := []) S mi_X11_owners qw1313 (k_owners l D A w α (1 : Int32) hB) hK hP hD (hE.kept hS.2.1) (hB.recv hK hP) rfl rfl hl.1 (Nat.le_of_ble_eq_true rfl) rfl rfl ⟨(Nat.le_of_ble_eq_true rfl), (Nat.le_of_ble_eq_true rfl)⟩ ⟨(Nat.le_of_ble_eq_true rfl), (Nat.le_of_ble_eq_true rfl)⟩ dL_isDue_137) hS (fun _ h => h) rfl (fun locs hS => ?_)
    refine lv_iload_n S.1 S.2.1 dL_isDue_140 rfl (lv_at hl 9 rfl) ?_
    refine lv_iconst (v := (-1)) S.1 S.2.1 dL_isDue_141 (by decide) ?_
    refine lv_ixor S.1 S.2.1 dL_isDue_142 ?_
    refine lv_iand S.1 S.2.1 dL_isDue_143 ?_
    rw [show ((a_owners v (1 : Int32)) &&& (wo ^^^ (-1))) = (ow_ v wo 1) from rfl]
    refine lv_istore (lv' := [(9, .int (ow_ v wo 1)), (8, .int 1), (6, .int 1), (7, .int (ow_ v wo 2)), (5, .int (dM_ v wo)), (4, .int (dT_ v wo)), (0, .ref (α 0)), (1, .int 2), (2, .int need), (3, .int wo)]) S.1 S.2.1 dL_isDue_144 hl (by decide) rfl (fun ls hl => ?_)
    refine lv_iload S.1 S.2.1 dL_isDue_146 (lv_at hl 1 rfl) ?_
    refine lv_iload_n S.1 S.2.1 dL_isDue_148 rfl (lv_at hl 7 rfl) ?_
    refine lv_icmp_eq (tgt := 175) S.1 S.2.1 dL_isDue_149 (by decide) (fun z9 => absurd z9 (by decide)) (fun _ => ?_)
    refine lv_iload S.1 S.2.1 dL_isDue_152 (lv_at hl 0 rfl) ?_
    refine x_aftR (st1 := [.int (f_J6_bitCount_0f7a4 (ow_ v wo 1))]) (x_St0 (As := [.int (ow_ v wo 1)]) (rest := []) S ms_J6_bitCount_0f7a4 qw1318 (c_J6_bitCount_0f7a4 l D A w α (ow_ v wo 1)) hK hP hD (hE.kept hS.2.1) rfl rfl hl.1 (Nat.le_of_ble_eq_true rfl) rfl rfl ⟨(Nat.le_of_ble_eq_true rfl), (Nat.le_of_ble_eq_true rfl)⟩ ⟨(Nat.le_of_ble_eq_true rfl), (Nat.le_of_ble_eq_true rfl)⟩ dL_isDue_154) hS (fun _ h => h) rfl (fun locs hS => ?_)
    rw [show (f_J6_bitCount_0f7a4 (ow_ v wo 1)) = (cb_ v wo 1) from rfl]
    refine lv_iload S.1 S.2.1 dL_isDue_157 (lv_at hl 4 rfl) ?_
    have k1 : ∀ (locs : List Loc) (ls : Array Slot), va_S A s.heap s.heap locs → lv_has ls 10 [(9, .int (ow_ v wo 1)), (8, .int 1), (6, .int 1), (7, .int (ow_ v wo 2)), (5, .int (dM_ v wo)), (4, .int (dT_ v wo)), (0, .ref (α 0)), (1, .int 2), (2, .int need), (3, .int wo)] → W pg l en ({ frames := 4, cells := 0, slots := 0, locals := 110 } : Room) s mi ar below me co s.heap locs 0 0 (MQ below (gR (some (.int 1))) ar s 0 0 A) (F0 mi 175 ls []) := by
      intro locs ls hS hl
      refine lv_iconst (v := 1) S.1 S.2.1 dL_isDue_175 (by decide) ?_
      refine lv_goto (tgt := 180) S.1 S.2.1 dL_isDue_176 (by decide) ?_
      refine lv_istore (lv' := [(6, .int 1), (9, .int (ow_ v wo 1)), (8, .int 1), (7, .int (ow_ v wo 2)), (5, .int (dM_ v wo)), (4, .int (dT_ v wo)), (0, .ref (α 0)), (1, .int 2), (2, .int need), (3, .int wo)]) S.1 S.2.1 dL_isDue_180 hl (by decide) rfl (fun ls hl => ?_)
      refine lv_iinc (v := 2) (lv' := [(8, .int 2), (6, .int 1), (9, .int (ow_ v wo 1)), (7, .int (ow_ v wo 2)), (5, .int (dM_ v wo)), (4, .int (dT_ v wo)), (0, .ref (α 0)), (1, .int 2), (2, .int need), (3, .int wo)]) S.1 S.2.1 dL_isDue_182 hl (k := 2) rfl (by decide) (by decide) rfl (fun ls hl => ?_)
      refine lv_goto (tgt := 123) S.1 S.2.1 dL_isDue_185 (by decide) ?_
      refine lv_iload S.1 S.2.1 dL_isDue_123 (lv_at hl 0 rfl) ?_
      refine lv_iconst (v := 4) S.1 S.2.1 dL_isDue_125 (by decide) ?_
      refine lv_icmp_ge (tgt := 188) S.1 S.2.1 dL_isDue_126 (by decide) (fun z9 => absurd z9 (by decide)) (fun _ => ?_)
      refine lv_iload S.1 S.2.1 dL_isDue_129 (lv_at hl 1 rfl) ?_
      refine lv_if_eq (tgt := 188) S.1 S.2.1 dL_isDue_131 (by decide) (fun z9 => absurd z9 (by decide)) (fun _ => ?_)
      refine lv_aload_n S.1 S.2.1 dL_isDue_134 rfl (lv_at hl 6 rfl) ?_
      refine lv_iload S.1 S.2.1 dL_isDue_135 (lv_at hl 0 rfl) ?_
      refine x_aftR (st1 := [.int (a_owners v (2 : Int32))]) (x_V0 (As := [.int 2]) (rest := []) S mi_X11_owners qw1313 (k_owners l D A w α (2 : Int32) hB) hK hP hD (hE.kept hS.2.1) (hB.recv hK hP) rfl rfl hl.1 (Nat.le_of_ble_eq_true rfl) rfl rfl ⟨(Nat.le_of_ble_eq_true rfl), (Nat.le_of_ble_eq_true rfl)⟩ ⟨(Nat.le_of_ble_eq_true rfl), (Nat.le_of_ble_eq_true rfl)⟩ dL_isDue_137) hS (fun _ h => h) rfl (fun locs hS => ?_)
      refine lv_iload_n S.1 S.2.1 dL_isDue_140 rfl (lv_at hl 9 rfl) ?_
      refine lv_iconst (v := (-1)) S.1 S.2.1 dL_isDue_141 (by decide) ?_
      refine lv_ixor S.1 S.2.1 dL_isDue_142 ?_
      refine lv_iand S.1 S.2.1 dL_isDue_143 ?_
      rw [show ((a_owners v (2 : Int32)) &&& (wo ^^^ (-1))) = (ow_ v wo 2) from rfl]
      refine lv_istore (lv' := [(9, .int (ow_ v wo 2)), (8, .int 2), (6, .int 1), (7, .int (ow_ v wo 2)), (5, .int (dM_ v wo)), (4, .int (dT_ v wo)), (0, .ref (α 0)), (1, .int 2), (2, .int need), (3, .int wo)]) S.1 S.2.1 dL_isDue_144 hl (by decide) rfl (fun ls hl => ?_)
      refine lv_iload S.1 S.2.1 dL_isDue_146 (lv_at hl 1 rfl) ?_
      refine lv_iload_n S.1 S.2.1 dL_isDue_148 rfl (lv_at hl 7 rfl) ?_
      refine lv_icmp_eq (tgt := 175) S.1 S.2.1 dL_isDue_149 (by decide) (fun _ => ?_) (fun z9 => absurd (by decide) z9)
      refine lv_iconst (v := 1) S.1 S.2.1 dL_isDue_175 (by decide) ?_
      refine lv_goto (tgt := 180) S.1 S.2.1 dL_isDue_176 (by decide) ?_
      refine lv_istore (lv' := [(6, .int 1), (9, .int (ow_ v wo 2)), (8, .int 2), (7, .int (ow_ v wo 2)), (5, .int (dM_ v wo)), (4, .int (dT_ v wo)), (0, .ref (α 0)), (1, .int 2), (2, .int need), (3, .int wo)]) S.1 S.2.1 dL_isDue_180 hl (by decide) rfl (fun ls hl => ?_)
      refine lv_iinc (v := 3) (lv' := [(8, .int 3), (6, .int 1), (9, .int (ow_ v wo 2)), (7, .int (ow_ v wo 2)), (5, .int (dM_ v wo)), (4, .int (dT_ v wo)), (0, .ref (α 0)), (1, .int 2), (2, .int need), (3, .int wo)]) S.1 S.2.1 dL_isDue_182 hl (k := 2) rfl (by decide) (by decide) rfl (fun ls hl => ?_)
      refine lv_goto (tgt := 123) S.1 S.2.1 dL_isDue_185 (by decide) ?_
      refine lv_iload S.1 S.2.1 dL_isDue_123 (lv_at hl 0 rfl) ?_
      refine lv_iconst (v := 4) S.1 S.2.1 dL_isDue_125 (by decide) ?_
      refine lv_icmp_ge (tgt := 188) S.1 S.2.1 dL_isDue_126 (by decide) (fun z9 => absurd z9 (by decide)) (fun _ => ?_)
      refine lv_iload S.1 S.2.1 dL_isDue_129 (lv_at hl 1 rfl) ?_
      refine lv_if_eq (tgt := 188) S.1 S.2.1 dL_isDue_131 (by decide) (fun z9 => absurd z9 (by decide)) (fun _ => ?_)
      refine lv_aload_n S.1 S.2.1 dL_isDue_134 rfl (lv_at hl 6 rfl) ?_
      refine lv_iload S.1 S.2.1 dL_isDue_135 (lv_at hl 0 rfl) ?_
      refine x_aftR (st1 := [.int (a_owners v (3 : Int32))]) (x_V0 (As := [.int 3]) (rest := []) S mi_X11_owners qw1313 (k_owners l D A w α (3 : Int32) hB) hK hP hD (hE.kept hS.2.1) (hB.recv hK hP) rfl rfl hl.1 (Nat.le_of_ble_eq_true rfl) rfl rfl ⟨(Nat.le_of_ble_eq_true rfl), (Nat.le_of_ble_eq_true rfl)⟩ ⟨(Nat.le_of_ble_eq_true rfl), (Nat.le_of_ble_eq_true rfl)⟩ dL_isDue_137) hS (fun _ h => h) rfl (fun locs hS => ?_)
      refine lv_iload_n S.1 S.2.1 dL_isDue_140 rfl (lv_at hl 9 rfl) ?_
      refine lv_iconst (v := (-1)) S.1 S.2.1 dL_isDue_141 (by decide) ?_
      refine lv_ixor S.1 S.2.1 dL_isDue_142 ?_
      refine lv_iand S.1 S.2.1 dL_isDue_143 ?_
      rw [show ((a_owners v (3 : Int32)) &&& (wo ^^^ (-1))) = (ow_ v wo 3) from rfl]
      refine lv_istore (lv' := [(9, .int (ow_ v wo 3)), (8, .int 3), (6, .int 1), (7, .int (ow_ v wo 2)), (5, .int (dM_ v wo)), (4, .int (dT_ v wo)), (0, .ref (α 0)), (1, .int 2), (2, .int need), (3, .int wo)]) S.1 S.2.1 dL_isDue_144 hl (by decide) rfl (fun ls hl => ?_)
      refine lv_iload S.1 S.2.1 dL_isDue_146 (lv_at hl 1 rfl) ?_
      refine lv_iload_n S.1 S.2.1 dL_isDue_148 rfl (lv_at hl 7 rfl) ?_
      refine lv_icmp_eq (tgt := 175) S.1 S.2.1 dL_isDue_149 (by decide) (fun z9 => absurd z9 (by decide)) (fun _ => ?_)
      refine lv_iload S.1 S.2.1 dL_isDue_152 (lv_at hl 0 rfl) ?_
      refine x_aftR (st1 := [.int (f_J6_bitCount_0f7a4 (ow_ v wo 3))]) (x_St0 (As := [.int (ow_ v wo 3)]) (rest := []) S ms_J6_bitCount_0f7a4 qw1318 (c_J6_bitCount_0f7a4 l D A w α (ow_ v wo 3)) hK hP hD (hE.kept hS.2.1) rfl rfl hl.1 (Nat.le_of_ble_eq_true rfl) rfl rfl ⟨(Nat.le_of_ble_eq_true rfl), (Nat.le_of_ble_eq_true rfl)⟩ ⟨(Nat.le_of_ble_eq_true rfl), (Nat.le_of_ble_eq_true rfl)⟩ dL_isDue_154) hS (fun _ h => h) rfl (fun locs hS => ?_)
      rw [show (f_J6_bitCount_0f7a4 (ow_ v wo 3)) = (cb_ v wo 3) from rfl]
      refine lv_iload S.1 S.2.1 dL_isDue_157 (lv_at hl 4 rfl) ?_
      have k3 : ∀ (locs : List Loc) (ls : Array Slot), va_S A s.heap s.heap locs → lv_has ls 10 [(9, .int (ow_ v wo 3)), (8, .int 3), (6, .int 1), (7, .int (ow_ v wo 2)), (5, .int (dM_ v wo)), (4, .int (dT_ v wo)), (0, .ref (α 0)), (1, .int 2), (2, .int need), (3, .int wo)] → W pg l en ({ frames := 4, cells := 0, slots := 0, locals := 110 } : Room) s mi ar below me co s.heap locs 0 0 (MQ below (gR (some (.int 1))) ar s 0 0 A) (F0 mi 175 ls []) := by
        intro locs ls hS hl
        refine lv_iconst (v := 1) S.1 S.2.1 dL_isDue_175 (by decide) ?_
        refine lv_goto (tgt := 180) S.1 S.2.1 dL_isDue_176 (by decide) ?_
        refine lv_istore (lv' := [(6, .int 1), (9, .int (ow_ v wo 3)), (8, .int 3), (7, .int (ow_ v wo 2)), (5, .int (dM_ v wo)), (4, .int (dT_ v wo)), (0, .ref (α 0)), (1, .int 2), (2, .int need), (3, .int wo)]) S.1 S.2.1 dL_isDue_180 hl (by decide) rfl (fun ls hl => ?_)
        refine lv_iinc (v := 4) (lv' := [(8, .int 4), (6, .int 1), (9, .int (ow_ v wo 3)), (7, .int (ow_ v wo 2)), (5, .int (dM_ v wo)), (4, .int (dT_ v wo)), (0, .ref (α 0)), (1, .int 2), (2, .int need), (3, .int wo)]) S.1 S.2.1 dL_isDue_182 hl (k := 2) rfl (by decide) (by decide) rfl (fun ls hl => ?_)
        refine lv_goto (tgt := 123) S.1 S.2.1 dL_isDue_185 (by decide) ?_
        refine lv_iload S.1 S.2.1 dL_isDue_123 (lv_at hl 0 rfl) ?_
        refine lv_iconst (v := 4) S.1 S.2.1 dL_isDue_125 (by decide) ?_
        refine lv_icmp_ge (tgt := 188) S.1 S.2.1 dL_isDue_126 (by decide) (fun _ => ?_) (fun z9 => absurd (by decide) z9)
        refine lv_iload S.1 S.2.1 dL_isDue_188 (lv_at hl 1 rfl) ?_
        exact g_nretR S hr hlk hS (by decide) rfl dL_isDue_190
      refine lv_icmp_lt (tgt := 175) S.1 S.2.1 dL_isDue_159 (by decide) (fun c => ?_) (fun c => ?_)
      · exact k3 _ _ hS hl
      · refine lv_iload S.1 S.2.1 dL_isDue_162 (lv_at hl 3 rfl) ?_
        refine x_aftR (st1 := [.int ((ow_ v wo 2) &&& -(ow_ v wo 2))]) (x_St (As := [.int (ow_ v wo 2)]) (rest := []) S ms_J6_lowestOneBit_0f7a4 qw1380 (x_J6_lowestOneBit_0f7a4 l D A w (ow_ v wo 2)) stX_t hK hP hD (hE.kept hS.2.1) trivial rfl rfl hl.1 (Nat.le_of_ble_eq_true rfl) rfl rfl ⟨(Nat.le_of_ble_eq_true rfl), (Nat.le_of_ble_eq_true rfl)⟩ ⟨(Nat.le_of_ble_eq_true rfl), (Nat.le_of_ble_eq_true rfl)⟩ dL_isDue_164) hS (fun _ h => h) rfl (fun locs hS => ?_)
        rw [show ((ow_ v wo 2) &&& -(ow_ v wo 2)) = (lo_ v wo 2) from rfl]
        refine lv_iload S.1 S.2.1 dL_isDue_167 (lv_at hl 0 rfl) ?_
        refine x_aftR (st1 := [.int ((ow_ v wo 3) &&& -(ow_ v wo 3)), .int (lo_ v wo 2)]) (x_St (As := [.int (ow_ v wo 3)]) (rest := [.int (lo_ v wo 2)]) S ms_J6_lowestOneBit_0f7a4 qw1380 (x_J6_lowestOneBit_0f7a4 l D A w (ow_ v wo 3)) stX_t hK hP hD (hE.kept hS.2.1) trivial rfl rfl hl.1 (Nat.le_of_ble_eq_true rfl) rfl rfl ⟨(Nat.le_of_ble_eq_true rfl), (Nat.le_of_ble_eq_true rfl)⟩ ⟨(Nat.le_of_ble_eq_true rfl), (Nat.le_of_ble_eq_true rfl)⟩ dL_isDue_169) hS (fun _ h => h) rfl (fun locs hS => ?_)
        rw [show ((ow_ v wo 3) &&& -(ow_ v wo 3)) = (lo_ v wo 3) from rfl]
        refine lv_icmp_ge (tgt := 179) S.1 S.2.1 dL_isDue_172 (by decide) (fun z9 => absurd z9 (Int32.not_le.mpr (((h3 3 (by decide)).resolve_left (by decide)).resolve_left c))) (fun _ => ?_)
        exact k3 _ _ hS hl
    refine lv_icmp_lt (tgt := 175) S.1 S.2.1 dL_isDue_159 (by decide) (fun c => ?_) (fun c => ?_)
    · exact k1 _ _ hS hl
    · refine lv_iload S.1 S.2.1 dL_isDue_162 (lv_at hl 3 rfl) ?_
      refine x_aftR (st1 := [.int ((ow_ v wo 2) &&& -(ow_ v wo 2))]) (x_St (As := [.int (ow_ v wo 2)]) (rest := []) S ms_J6_lowestOneBit_0f7a4 qw1380 (x_J6_lowestOneBit_0f7a4 l D A w (ow_ v wo 2)) stX_t hK hP hD (hE.kept hS.2.1) trivial rfl rfl hl.1 (Nat.le_of_ble_eq_true rfl) rfl rfl ⟨(Nat.le_of_ble_eq_true rfl), (Nat.le_of_ble_eq_true rfl)⟩ ⟨(Nat.le_of_ble_eq_true rfl), (Nat.le_of_ble_eq_true rfl)⟩ dL_isDue_164) hS (fun _ h => h) rfl (fun locs hS => ?_)
      rw [show ((ow_ v wo 2) &&& -(ow_ v wo 2)) = (lo_ v wo 2) from rfl]
      refine lv_iload S.1 S.2.1 dL_isDue_167 (lv_at hl 0 rfl) ?_
      refine x_aftR (st1 := [.int ((ow_ v wo 1) &&& -(ow_ v wo 1)), .int (lo_ v wo 2)]) (x_St (As := [.int (ow_ v wo 1)]) (rest := [.int (lo_ v wo 2)]) S ms_J6_lowestOneBit_0f7a4 qw1380 (x_J6_lowestOneBit_0f7a4 l D A w (ow_ v wo 1)) stX_t hK hP hD (hE.kept hS.2.1) trivial rfl rfl hl.1 (Nat.le_of_ble_eq_true rfl) rfl rfl ⟨(Nat.le_of_ble_eq_true rfl), (Nat.le_of_ble_eq_true rfl)⟩ ⟨(Nat.le_of_ble_eq_true rfl), (Nat.le_of_ble_eq_true rfl)⟩ dL_isDue_169) hS (fun _ h => h) rfl (fun locs hS => ?_)
      rw [show ((ow_ v wo 1) &&& -(ow_ v wo 1)) = (lo_ v wo 1) from rfl]
      refine lv_icmp_ge (tgt := 179) S.1 S.2.1 dL_isDue_172 (by decide) (fun z9 => absurd z9 (Int32.not_le.mpr (((h3 1 (by decide)).resolve_left (by decide)).resolve_left c))) (fun _ => ?_)
      exact k1 _ _ hS hl
  refine lv_icmp_lt (tgt := 175) S.1 S.2.1 dL_isDue_159 (by decide) (fun c => ?_) (fun c => ?_)
  · exact k0 _ _ hS hl
  · refine lv_iload S.1 S.2.1 dL_isDue_162 (lv_at hl 2 rfl) ?_
    refine x_aftR (st1 := [.int ((ow_ v wo 2) &&& -(ow_ v wo 2))]) (x_St (As := [.int (ow_ v wo 2)]) (rest := []) S ms_J6_lowestOneBit_0f7a4 qw1380 (x_J6_lowestOneBit_0f7a4 l D A w (ow_ v wo 2)) stX_t hK hP hD (hE.kept hS.2.1) trivial rfl rfl hl.1 (Nat.le_of_ble_eq_true rfl) rfl rfl ⟨(Nat.le_of_ble_eq_true rfl), (Nat.le_of_ble_eq_true rfl)⟩ ⟨(Nat.le_of_ble_eq_true rfl), (Nat.le_of_ble_eq_true rfl)⟩ dL_isDue_164) hS (fun _ h => h) rfl (fun locs hS => ?_)
    rw [show ((ow_ v wo 2) &&& -(ow_ v wo 2)) = (lo_ v wo 2) from rfl]
    refine lv_iload S.1 S.2.1 dL_isDue_167 (lv_at hl 0 rfl) ?_
    refine x_aftR (st1 := [.int ((ow_ v wo 0) &&& -(ow_ v wo 0)), .int (lo_ v wo 2)]) (x_St (As := [.int (ow_ v wo 0)]) (rest := [.int (lo_ v wo 2)]) S ms_J6_lowestOneBit_0f7a4 qw1380 (x_J6_lowestOneBit_0f7a4 l D A w (ow_ v wo 0)) stX_t hK hP hD (hE.kept hS.2.1) trivial rfl rfl hl.1 (Nat.le_of_ble_eq_true rfl) rfl rfl ⟨(Nat.le_of_ble_eq_true rfl), (Nat.le_of_ble_eq_true rfl)⟩ ⟨(Nat.le_of_ble_eq_true rfl), (Nat.le_of_ble_eq_true rfl)⟩ dL_isDue_169) hS (fun _ h => h) rfl (fun locs hS => ?_)
    rw [show ((ow_ v wo 0) &&& -(ow_ v wo 0)) = (lo_ v wo 0) from rfl]
    refine lv_icmp_ge (tgt := 179) S.1 S.2.1 dL_isDue_172 (by decide) (fun z9 => absurd z9 (Int32.not_le.mpr (((h3 0 (by decide)).resolve_left (by decide)).resolve_left c))) (fun _ => ?_)
    exact k0 _ _ hS hl
set_option maxHeartbeats 4000000 in
set_option maxRecDepth 100000 in
theorem l_isDue_3 (l : Launch) (D : va_G) (A : Nat → Prop) (w : va_W) (α : Nat → Nat) {v : VT} (hB : OB D α w v) (need wo : Int32) (h1 : need ≤ dT_ v wo) (h2 : cb_ v wo 3 = dM_ v wo) (h3 : ∀ b : Int32, b = 0 ∨ b = 1 ∨ b = 2 ∨ b = 3 → b = 3 ∨ cb_ v wo b < dM_ v wo ∨ lo_ v wo 3 < lo_ v wo b) : Met l yL_isDue (ws_ yL_isDue cL_isDue 10 (Option.some Jvm.ClassFile.FieldType.boolean)) ({ frames := 4, cells := 0, slots := 0, locals := 110 } : Room) (gPre D A [.ref (α 0), .int 3, .int need, .int wo] w) (gR (some (.int 1))) 0 0 A := by
  refine g_met [(0, .ref (α 0)), (1, .int 3), (2, .int need), (3, .int wo)] (by decide +kernel) (Nat.le_of_ble_eq_true rfl) rfl (fun pg en s mi ar below me co ls S hK hP hD hE hS hr hlk hnm hl => ?_)
  refine lv_iconst (v := 0) S.1 S.2.1 dL_isDue_0 (by decide) ?_
  refine lv_istore (lv' := [(4, .int 0), (0, .ref (α 0)), (1, .int 3), (2, .int need), (3, .int wo)]) S.1 S.2.1 dL_isDue_1 hl (by decide) rfl (fun ls hl => ?_)
  refine lv_iconst (v := 0) S.1 S.2.1 dL_isDue_3 (by decide) ?_
  refine lv_istore (lv' := [(5, .int 0), (4, .int 0), (0, .ref (α 0)), (1, .int 3), (2, .int need), (3, .int wo)]) S.1 S.2.1 dL_isDue_4 hl (by decide) rfl (fun ls hl => ?_)
  refine lv_iconst (v := 0) S.1 S.2.1 dL_isDue_6 (by decide) ?_
  refine lv_istore (lv' := [(6, .int 0), (5, .int 0), (4, .int 0), (0, .ref (α 0)), (1, .int 3), (2, .int need), (3, .int wo)]) S.1 S.2.1 dL_isDue_7 hl (by decide) rfl (fun ls hl => ?_)
  refine lv_iload S.1 S.2.1 dL_isDue_9 (lv_at hl 0 rfl) ?_
  refine lv_iconst (v := 4) S.1 S.2.1 dL_isDue_11 (by decide) ?_
  refine lv_icmp_ge (tgt := 52) S.1 S.2.1 dL_isDue_12 (by decide) (fun z9 => absurd z9 (by decide)) (fun _ => ?_)
  refine lv_aload_n S.1 S.2.1 dL_isDue_15 rfl (lv_at hl 3 rfl) ?_
  refine lv_iload S.1 S.2.1 dL_isDue_16 (lv_at hl 0 rfl) ?_
  refine x_aftR (st1 := [.int (a_owners v (0 : Int32))]) (x_V0 (As := [.int 0]) (rest := []) S mi_X11_owners qw1313 (k_owners l D A w α (0 : Int32) hB) hK hP hD (hE.kept hS.2.1) (hB.recv hK hP) rfl rfl hl.1 (Nat.le_of_ble_eq_true rfl) rfl rfl ⟨(Nat.le_of_ble_eq_true rfl), (Nat.le_of_ble_eq_true rfl)⟩ ⟨(Nat.le_of_ble_eq_true rfl), (Nat.le_of_ble_eq_true rfl)⟩ dL_isDue_18) hS (fun _ h => h) rfl (fun locs hS => ?_)
  refine lv_iload_n S.1 S.2.1 dL_isDue_21 rfl (lv_at hl 6 rfl) ?_
  refine lv_iconst (v := (-1)) S.1 S.2.1 dL_isDue_22 (by decide) ?_
  refine lv_ixor S.1 S.2.1 dL_isDue_23 ?_
  refine lv_iand S.1 S.2.1 dL_isDue_24 ?_
  rw [show ((a_owners v (0 : Int32)) &&& (wo ^^^ (-1))) = (ow_ v wo 0) from rfl]
  refine x_aftR (st1 := [.int (f_J6_bitCount_0f7a4 (ow_ v wo 0))]) (x_St0 (As := [.int (ow_ v wo 0)]) (rest := []) S ms_J6_bitCount_0f7a4 qw1318 (c_J6_bitCount_0f7a4 l D A w α (ow_ v wo 0)) hK hP hD (hE.kept hS.2.1) rfl rfl hl.1 (Nat.le_of_ble_eq_true rfl) rfl rfl ⟨(Nat.le_of_ble_eq_true rfl), (Nat.le_of_ble_eq_true rfl)⟩ ⟨(Nat.le_of_ble_eq_true rfl), (Nat.le_of_ble_eq_true rfl)⟩ dL_isDue_25) hS (fun _ h => h) rfl (fun locs hS => ?_)
  rw [show (f_J6_bitCount_0f7a4 (ow_ v wo 0)) = (cb_ v wo 0) from rfl]
  refine lv_istore (lv' := [(7, .int (cb_ v wo 0)), (6, .int 0), (5, .int 0), (4, .int 0), (0, .ref (α 0)), (1, .int 3), (2, .int need), (3, .int wo)]) S.1 S.2.1 dL_isDue_28 hl (by decide) rfl (fun ls hl => ?_)
  refine lv_iload S.1 S.2.1 dL_isDue_30 (lv_at hl 3 rfl) ?_
  refine lv_iload S.1 S.2.1 dL_isDue_32 (lv_at hl 0 rfl) ?_
  refine lv_iadd S.1 S.2.1 dL_isDue_34 ?_
  refine lv_istore (lv' := [(4, .int ((0 : Int32) + (cb_ v wo 0))), (7, .int (cb_ v wo 0)), (6, .int 0), (5, .int 0), (0, .ref (α 0)), (1, .int 3), (2, .int need), (3, .int wo)]) S.1 S.2.1 dL_isDue_35 hl (by decide) rfl (fun ls hl => ?_)
  refine lv_iload S.1 S.2.1 dL_isDue_37 (lv_at hl 3 rfl) ?_
  refine lv_iload S.1 S.2.1 dL_isDue_39 (lv_at hl 1 rfl) ?_
  refine va_mmax S.1 S.2.1 (S.2.2.1.trans hl.1.symm) S.2.2.2.1 (S.2.2.2.2 _ qw1360) (S.2.2.2.2 _ qw45) (S.2.2.2.2 _ qw4) (S.2.2.2.2 _ qw46) (Nat.le_of_ble_eq_true rfl) (Nat.le_of_ble_eq_true rfl) (Nat.le_of_ble_eq_true rfl) (Nat.le_of_ble_eq_true rfl) dL_isDue_41 ?_
  rw [show (if (0 : Int32) < (cb_ v wo 0) then (cb_ v wo 0) else (0 : Int32)) = (mx (0 : Int32) (cb_ v wo 0)) from rfl]
  refine lv_istore (lv' := [(5, .int (mx (0 : Int32) (cb_ v wo 0))), (4, .int ((0 : Int32) + (cb_ v wo 0))), (7, .int (cb_ v wo 0)), (6, .int 0), (0, .ref (α 0)), (1, .int 3), (2, .int need), (3, .int wo)]) S.1 S.2.1 dL_isDue_44 hl (by decide) rfl (fun ls hl => ?_)
  refine lv_iinc (v := 1) (lv' := [(6, .int 1), (5, .int (mx (0 : Int32) (cb_ v wo 0))), (4, .int ((0 : Int32) + (cb_ v wo 0))), (7, .int (cb_ v wo 0)), (0, .ref (α 0)), (1, .int 3), (2, .int need), (3, .int wo)]) S.1 S.2.1 dL_isDue_46 hl (k := 3) rfl (by decide) (by decide) rfl (fun ls hl => ?_)
  refine lv_goto (tgt := 9) S.1 S.2.1 dL_isDue_49 (by decide) ?_
  refine lv_iload S.1 S.2.1 dL_isDue_9 (lv_at hl 0 rfl) ?_
  refine lv_iconst (v := 4) S.1 S.2.1 dL_isDue_11 (by decide) ?_
  refine lv_icmp_ge (tgt := 52) S.1 S.2.1 dL_isDue_12 (by decide) (fun z9 => absurd z9 (by decide)) (fun _ => ?_)
  refine lv_aload_n S.1 S.2.1 dL_isDue_15 rfl (lv_at hl 4 rfl) ?_
  refine lv_iload S.1 S.2.1 dL_isDue_16 (lv_at hl 0 rfl) ?_
  refine x_aftR (st1 := [.int (a_owners v (1 : Int32))]) (x_V0 (As := [.int 1]) (rest := []) S mi_X11_owners qw1313 (k_owners l D A w α (1 : Int32) hB) hK hP hD (hE.kept hS.2.1) (hB.recv hK hP) rfl rfl hl.1 (Nat.le_of_ble_eq_true rfl) rfl rfl ⟨(Nat.le_of_ble_eq_true rfl), (Nat.le_of_ble_eq_true rfl)⟩ ⟨(Nat.le_of_ble_eq_true rfl), (Nat.le_of_ble_eq_true rfl)⟩ dL_isDue_18) hS (fun _ h => h) rfl (fun locs hS => ?_)
  refine lv_iload_n S.1 S.2.1 dL_isDue_21 rfl (lv_at hl 7 rfl) ?_
  refine lv_iconst (v := (-1)) S.1 S.2.1 dL_isDue_22 (by decide) ?_
  refine lv_ixor S.1 S.2.1 dL_isDue_23 ?_
  refine lv_iand S.1 S.2.1 dL_isDue_24 ?_
  rw [show ((a_owners v (1 : Int32)) &&& (wo ^^^ (-1))) = (ow_ v wo 1) from rfl]
  refine x_aftR (st1 := [.int (f_J6_bitCount_0f7a4 (ow_ v wo 1))]) (x_St0 (As := [.int (ow_ v wo 1)]) (rest := []) S ms_J6_bitCount_0f7a4 qw1318 (c_J6_bitCount_0f7a4 l D A w α (ow_ v wo 1)) hK hP hD (hE.kept hS.2.1) rfl rfl hl.1 (Nat.le_of_ble_eq_true rfl) rfl rfl ⟨(Nat.le_of_ble_eq_true rfl), (Nat.le_of_ble_eq_true rfl)⟩ ⟨(Nat.le_of_ble_eq_true rfl), (Nat.le_of_ble_eq_true rfl)⟩ dL_isDue_25) hS (fun _ h => h) rfl (fun locs hS => ?_)
  rw [show (f_J6_bitCount_0f7a4 (ow_ v wo 1)) = (cb_ v wo 1) from rfl]
  refine lv_istore (lv' := [(7, .int (cb_ v wo 1)), (6, .int 1), (5, .int (mx (0 : Int32) (cb_ v wo 0))), (4, .int ((0 : Int32) + (cb_ v wo 0))), (0, .ref (α 0)), (1, .int 3), (2, .int need), (3, .int wo)]) S.1 S.2.1 dL_isDue_28 hl (by decide) rfl (fun ls hl => ?_)
  refine lv_iload S.1 S.2.1 dL_isDue_30 (lv_at hl 3 rfl) ?_
  refine lv_iload S.1 S.2.1 dL_isDue_32 (lv_at hl 0 rfl) ?_
  refine lv_iadd S.1 S.2.1 dL_isDue_34 ?_
  refine lv_istore (lv' := [(4, .int (((0 : Int32) + (cb_ v wo 0)) + (cb_ v wo 1))), (7, .int (cb_ v wo 1)), (6, .int 1), (5, .int (mx (0 : Int32) (cb_ v wo 0))), (0, .ref (α 0)), (1, .int 3), (2, .int need), (3, .int wo)]) S.1 S.2.1 dL_isDue_35 hl (by decide) rfl (fun ls hl => ?_)
  refine lv_iload S.1 S.2.1 dL_isDue_37 (lv_at hl 3 rfl) ?_
  refine lv_iload S.1 S.2.1 dL_isDue_39 (lv_at hl 1 rfl) ?_
  refine va_mmax S.1 S.2.1 (S.2.2.1.trans hl.1.symm) S.2.2.2.1 (S.2.2.2.2 _ qw1360) (S.2.2.2.2 _ qw45) (S.2.2.2.2 _ qw4) (S.2.2.2.2 _ qw46) (Nat.le_of_ble_eq_true rfl) (Nat.le_of_ble_eq_true rfl) (Nat.le_of_ble_eq_true rfl) (Nat.le_of_ble_eq_true rfl) dL_isDue_41 ?_
  rw [show (if (mx (0 : Int32) (cb_ v wo 0)) < (cb_ v wo 1) then (cb_ v wo 1) else (mx (0 : Int32) (cb_ v wo 0))) = (mx (mx (0 : Int32) (cb_ v wo 0)) (cb_ v wo 1)) from rfl]
  refine lv_istore (lv' := [(5, .int (mx (mx (0 : Int32) (cb_ v wo 0)) (cb_ v wo 1))), (4, .int (((0 : Int32) + (cb_ v wo 0)) + (cb_ v wo 1))), (7, .int (cb_ v wo 1)), (6, .int 1), (0, .ref (α 0)), (1, .int 3), (2, .int need), (3, .int wo)]) S.1 S.2.1 dL_isDue_44 hl (by decide) rfl (fun ls hl => ?_)
  refine lv_iinc (v := 2) (lv' := [(6, .int 2), (5, .int (mx (mx (0 : Int32) (cb_ v wo 0)) (cb_ v wo 1))), (4, .int (((0 : Int32) + (cb_ v wo 0)) + (cb_ v wo 1))), (7, .int (cb_ v wo 1)), (0, .ref (α 0)), (1, .int 3), (2, .int need), (3, .int wo)]) S.1 S.2.1 dL_isDue_46 hl (k := 3) rfl (by decide) (by decide) rfl (fun ls hl => ?_)
  refine lv_goto (tgt := 9) S.1 S.2.1 dL_isDue_49 (by decide) ?_
  refine lv_iload S.1 S.2.1 dL_isDue_9 (lv_at hl 0 rfl) ?_
  refine lv_iconst (v := 4) S.1 S.2.1 dL_isDue_11 (by decide) ?_
  refine lv_icmp_ge (tgt := 52) S.1 S.2.1 dL_isDue_12 (by decide) (fun z9 => absurd z9 (by decide)) (fun _ => ?_)
  refine lv_aload_n S.1 S.2.1 dL_isDue_15 rfl (lv_at hl 4 rfl) ?_
  refine lv_iload S.1 S.2.1 dL_isDue_16 (lv_at hl 0 rfl) ?_
  refine x_aftR (st1 := [.int (a_owners v (2 : Int32))]) (x_V0 (As := [.int 2]) (rest := []) S mi_X11_owners qw1313 (k_owners l D A w α (2 : Int32) hB) hK hP hD (hE.kept hS.2.1) (hB.recv hK hP) rfl rfl hl.1 (Nat.le_of_ble_eq_true rfl) rfl rfl ⟨(Nat.le_of_ble_eq_true rfl), (Nat.le_of_ble_eq_true rfl)⟩ ⟨(Nat.le_of_ble_eq_true rfl), (Nat.le_of_ble_eq_true rfl)⟩ dL_isDue_18) hS (fun _ h => h) rfl (fun locs hS => ?_)
  refine lv_iload_n S.1 S.2.1 dL_isDue_21 rfl (lv_at hl 7 rfl) ?_
  refine lv_iconst (v := (-1)) S.1 S.2.1 dL_isDue_22 (by decide) ?_
  refine lv_ixor S.1 S.2.1 dL_isDue_23 ?_
  refine lv_iand S.1 S.2.1 dL_isDue_24 ?_
  rw [show ((a_owners v (2 : Int32)) &&& (wo ^^^ (-1))) = (ow_ v wo 2) from rfl]
  refine x_aftR (st1 := [.int (f_J6_bitCount_0f7a4 (ow_ v wo 2))]) (x_St0 (As := [.int (ow_ v wo 2)]) (rest := []) S ms_J6_bitCount_0f7a4 qw1318 (c_J6_bitCount_0f7a4 l D A w α (ow_ v wo 2)) hK hP hD (hE.kept hS.2.1) rfl rfl hl.1 (Nat.le_of_ble_eq_true rfl) rfl rfl ⟨(Nat.le_of_ble_eq_true rfl), (Nat.le_of_ble_eq_true rfl)⟩ ⟨(Nat.le_of_ble_eq_true rfl), (Nat.le_of_ble_eq_true rfl)⟩ dL_isDue_25) hS (fun _ h => h) rfl (fun locs hS => ?_)
  rw [show (f_J6_bitCount_0f7a4 (ow_ v wo 2)) = (cb_ v wo 2) from rfl]
  refine lv_istore (lv' := [(7, .int (cb_ v wo 2)), (6, .int 2), (5, .int (mx (mx (0 : Int32) (cb_ v wo 0)) (cb_ v wo 1))), (4, .int (((0 : Int32) + (cb_ v wo 0)) + (cb_ v wo 1))), (0, .ref (α 0)), (1, .int 3), (2, .int need), (3, .int wo)]) S.1 S.2.1 dL_isDue_28 hl (by decide) rfl (fun ls hl => ?_)
  refine lv_iload S.1 S.2.1 dL_isDue_30 (lv_at hl 3 rfl) ?_
  refine lv_iload S.1 S.2.1 dL_isDue_32 (lv_at hl 0 rfl) ?_
  refine lv_iadd S.1 S.2.1 dL_isDue_34 ?_
  refine lv_istore (lv' := [(4, .int ((((0 : Int32) + (cb_ v wo 0)) + (cb_ v wo 1)) + (cb_ v wo 2))), (7, .int (cb_ v wo 2)), (6, .int 2), (5, .int (mx (mx (0 : Int32) (cb_ v wo 0)) (cb_ v wo 1))), (0, .ref (α 0)), (1, .int 3), (2, .int need), (3, .int wo)]) S.1 S.2.1 dL_isDue_35 hl (by decide) rfl (fun ls hl => ?_)
  refine lv_iload S.1 S.2.1 dL_isDue_37 (lv_at hl 3 rfl) ?_
  refine lv_iload S.1 S.2.1 dL_isDue_39 (lv_at hl 1 rfl) ?_
  refine va_mmax S.1 S.2.1 (S.2.2.1.trans hl.1.symm) S.2.2.2.1 (S.2.2.2.2 _ qw1360) (S.2.2.2.2 _ qw45) (S.2.2.2.2 _ qw4) (S.2.2.2.2 _ qw46) (Nat.le_of_ble_eq_true rfl) (Nat.le_of_ble_eq_true rfl) (Nat.le_of_ble_eq_true rfl) (Nat.le_of_ble_eq_true rfl) dL_isDue_41 ?_
  rw [show (if (mx (mx (0 : Int32) (cb_ v wo 0)) (cb_ v wo 1)) < (cb_ v wo 2) then (cb_ v wo 2) else (mx (mx (0 : Int32) (cb_ v wo 0)) (cb_ v wo 1))) = (mx (mx (mx (0 : Int32) (cb_ v wo 0)) (cb_ v wo 1)) (cb_ v wo 2)) from rfl]
  refine lv_istore (lv' := [(5, .int (mx (mx (mx (0 : Int32) (cb_ v wo 0)) (cb_ v wo 1)) (cb_ v wo 2))), (4, .int ((((0 : Int32) + (cb_ v wo 0)) + (cb_ v wo 1)) + (cb_ v wo 2))), (7, .int (cb_ v wo 2)), (6, .int 2), (0, .ref (α 0)), (1, .int 3), (2, .int need), (3, .int wo)]) S.1 S.2.1 dL_isDue_44 hl (by decide) rfl (fun ls hl => ?_)
  refine lv_iinc (v := 3) (lv' := [(6, .int 3), (5, .int (mx (mx (mx (0 : Int32) (cb_ v wo 0)) (cb_ v wo 1)) (cb_ v wo 2))), (4, .int ((((0 : Int32) + (cb_ v wo 0)) + (cb_ v wo 1)) + (cb_ v wo 2))), (7, .int (cb_ v wo 2)), (0, .ref (α 0)), (1, .int 3), (2, .int need), (3, .int wo)]) S.1 S.2.1 dL_isDue_46 hl (k := 3) rfl (by decide) (by decide) rfl (fun ls hl => ?_)
  refine lv_goto (tgt := 9) S.1 S.2.1 dL_isDue_49 (by decide) ?_
  refine lv_iload S.1 S.2.1 dL_isDue_9 (lv_at hl 0 rfl) ?_
  refine lv_iconst (v := 4) S.1 S.2.1 dL_isDue_11 (by decide) ?_
  refine lv_icmp_ge (tgt := 52) S.1 S.2.1 dL_isDue_12 (by decide) (fun z9 => absurd z9 (by decide)) (fun _ => ?_)
  refine lv_aload_n S.1 S.2.1 dL_isDue_15 rfl (lv_at hl 4 rfl) ?_
  refine lv_iload S.1 S.2.1 dL_isDue_16 (lv_at hl 0 rfl) ?_
  refine x_aftR (st1 := [.int (a_owners v (3 : Int32))]) (x_V0 (As := [.int 3]) (rest := []) S mi_X11_owners qw1313 (k_owners l D A w α (3 : Int32) hB) hK hP hD (hE.kept hS.2.1) (hB.recv hK hP) rfl rfl hl.1 (Nat.le_of_ble_eq_true rfl) rfl rfl ⟨(Nat.le_of_ble_eq_true rfl), (Nat.le_of_ble_eq_true rfl)⟩ ⟨(Nat.le_of_ble_eq_true rfl), (Nat.le_of_ble_eq_true rfl)⟩ dL_isDue_18) hS (fun _ h => h) rfl (fun locs hS => ?_)
  refine lv_iload_n S.1 S.2.1 dL_isDue_21 rfl (lv_at hl 7 rfl) ?_
  refine lv_iconst (v := (-1)) S.1 S.2.1 dL_isDue_22 (by decide) ?_
  refine lv_ixor S.1 S.2.1 dL_isDue_23 ?_
  refine lv_iand S.1 S.2.1 dL_isDue_24 ?_
  rw [show ((a_owners v (3 : Int32)) &&& (wo ^^^ (-1))) = (ow_ v wo 3) from rfl]
  refine x_aftR (st1 := [.int (f_J6_bitCount_0f7a4 (ow_ v wo 3))]) (x_St0 (As := [.int (ow_ v wo 3)]) (rest := []) S ms_J6_bitCount_0f7a4 qw1318 (c_J6_bitCount_0f7a4 l D A w α (ow_ v wo 3)) hK hP hD (hE.kept hS.2.1) rfl rfl hl.1 (Nat.le_of_ble_eq_true rfl) rfl rfl ⟨(Nat.le_of_ble_eq_true rfl), (Nat.le_of_ble_eq_true rfl)⟩ ⟨(Nat.le_of_ble_eq_true rfl), (Nat.le_of_ble_eq_true rfl)⟩ dL_isDue_25) hS (fun _ h => h) rfl (fun locs hS => ?_)
  rw [show (f_J6_bitCount_0f7a4 (ow_ v wo 3)) = (cb_ v wo 3) from rfl]
  refine lv_istore (lv' := [(7, .int (cb_ v wo 3)), (6, .int 3), (5, .int (mx (mx (mx (0 : Int32) (cb_ v wo 0)) (cb_ v wo 1)) (cb_ v wo 2))), (4, .int ((((0 : Int32) + (cb_ v wo 0)) + (cb_ v wo 1)) + (cb_ v wo 2))), (0, .ref (α 0)), (1, .int 3), (2, .int need), (3, .int wo)]) S.1 S.2.1 dL_isDue_28 hl (by decide) rfl (fun ls hl => ?_)
  refine lv_iload S.1 S.2.1 dL_isDue_30 (lv_at hl 3 rfl) ?_
  refine lv_iload S.1 S.2.1 dL_isDue_32 (lv_at hl 0 rfl) ?_
  refine lv_iadd S.1 S.2.1 dL_isDue_34 ?_
  rw [show (((((0 : Int32) + (cb_ v wo 0)) + (cb_ v wo 1)) + (cb_ v wo 2)) + (cb_ v wo 3)) = dT_ v wo from rfl]
  refine lv_istore (lv' := [(4, .int (dT_ v wo)), (7, .int (cb_ v wo 3)), (6, .int 3), (5, .int (mx (mx (mx (0 : Int32) (cb_ v wo 0)) (cb_ v wo 1)) (cb_ v wo 2))), (0, .ref (α 0)), (1, .int 3), (2, .int need), (3, .int wo)]) S.1 S.2.1 dL_isDue_35 hl (by decide) rfl (fun ls hl => ?_)
  refine lv_iload S.1 S.2.1 dL_isDue_37 (lv_at hl 3 rfl) ?_
  refine lv_iload S.1 S.2.1 dL_isDue_39 (lv_at hl 1 rfl) ?_
  refine va_mmax S.1 S.2.1 (S.2.2.1.trans hl.1.symm) S.2.2.2.1 (S.2.2.2.2 _ qw1360) (S.2.2.2.2 _ qw45) (S.2.2.2.2 _ qw4) (S.2.2.2.2 _ qw46) (Nat.le_of_ble_eq_true rfl) (Nat.le_of_ble_eq_true rfl) (Nat.le_of_ble_eq_true rfl) (Nat.le_of_ble_eq_true rfl) dL_isDue_41 ?_
  rw [show (if (mx (mx (mx (0 : Int32) (cb_ v wo 0)) (cb_ v wo 1)) (cb_ v wo 2)) < (cb_ v wo 3) then (cb_ v wo 3) else (mx (mx (mx (0 : Int32) (cb_ v wo 0)) (cb_ v wo 1)) (cb_ v wo 2))) = (mx (mx (mx (mx (0 : Int32) (cb_ v wo 0)) (cb_ v wo 1)) (cb_ v wo 2)) (cb_ v wo 3)) from rfl]
  rw [show (mx (mx (mx (mx (0 : Int32) (cb_ v wo 0)) (cb_ v wo 1)) (cb_ v wo 2)) (cb_ v wo 3)) = (dM_ v wo) from rfl]
  refine lv_istore (lv' := [(5, .int (dM_ v wo)), (4, .int (dT_ v wo)), (7, .int (cb_ v wo 3)), (6, .int 3), (0, .ref (α 0)), (1, .int 3), (2, .int need), (3, .int wo)]) S.1 S.2.1 dL_isDue_44 hl (by decide) rfl (fun ls hl => ?_)
  refine lv_iinc (v := 4) (lv' := [(6, .int 4), (5, .int (dM_ v wo)), (4, .int (dT_ v wo)), (7, .int (cb_ v wo 3)), (0, .ref (α 0)), (1, .int 3), (2, .int need), (3, .int wo)]) S.1 S.2.1 dL_isDue_46 hl (k := 3) rfl (by decide) (by decide) rfl (fun ls hl => ?_)
  refine lv_goto (tgt := 9) S.1 S.2.1 dL_isDue_49 (by decide) ?_
  refine lv_iload S.1 S.2.1 dL_isDue_9 (lv_at hl 0 rfl) ?_
  refine lv_iconst (v := 4) S.1 S.2.1 dL_isDue_11 (by decide) ?_
  refine lv_icmp_ge (tgt := 52) S.1 S.2.1 dL_isDue_12 (by decide) (fun _ => ?_) (fun z9 => absurd (by decide) z9)
  refine lv_iload_n S.1 S.2.1 dL_isDue_52 rfl (lv_at hl 5 rfl) ?_
  refine lv_if_ge (tgt := 79) S.1 S.2.1 dL_isDue_53 (by decide) (fun _ => ?_) (fun z9 => absurd (by decide) z9)
  refine lv_iload S.1 S.2.1 dL_isDue_79 (lv_at hl 2 rfl) ?_
  refine lv_iload_n S.1 S.2.1 dL_isDue_81 rfl (lv_at hl 6 rfl) ?_
  refine lv_icmp_lt (tgt := 106) S.1 S.2.1 dL_isDue_82 (by decide) (fun z9 => absurd z9 (fun z9 => absurd h1 (Int32.not_le.mpr z9))) (fun _ => ?_)
  refine lv_aload_n S.1 S.2.1 dL_isDue_85 rfl (lv_at hl 4 rfl) ?_
  refine lv_iload_n S.1 S.2.1 dL_isDue_86 rfl (lv_at hl 5 rfl) ?_
  refine x_aftR (st1 := [.int (a_owners v (3 : Int32))]) (x_V0 (As := [.int 3]) (rest := []) S mi_X11_owners qw1313 (k_owners l D A w α (3 : Int32) hB) hK hP hD (hE.kept hS.2.1) (hB.recv hK hP) rfl rfl hl.1 (Nat.le_of_ble_eq_true rfl) rfl rfl ⟨(Nat.le_of_ble_eq_true rfl), (Nat.le_of_ble_eq_true rfl)⟩ ⟨(Nat.le_of_ble_eq_true rfl), (Nat.le_of_ble_eq_true rfl)⟩ dL_isDue_87) hS (fun _ h => h) rfl (fun locs hS => ?_)
  refine lv_iload_n S.1 S.2.1 dL_isDue_90 rfl (lv_at hl 7 rfl) ?_
  refine lv_iconst (v := (-1)) S.1 S.2.1 dL_isDue_91 (by decide) ?_
  refine lv_ixor S.1 S.2.1 dL_isDue_92 ?_
  refine lv_iand S.1 S.2.1 dL_isDue_93 ?_
  rw [show ((a_owners v (3 : Int32)) &&& (wo ^^^ (-1))) = (ow_ v wo 3) from rfl]
  refine x_aftR (st1 := [.int (f_J6_bitCount_0f7a4 (ow_ v wo 3))]) (x_St0 (As := [.int (ow_ v wo 3)]) (rest := []) S ms_J6_bitCount_0f7a4 qw1318 (c_J6_bitCount_0f7a4 l D A w α (ow_ v wo 3)) hK hP hD (hE.kept hS.2.1) rfl rfl hl.1 (Nat.le_of_ble_eq_true rfl) rfl rfl ⟨(Nat.le_of_ble_eq_true rfl), (Nat.le_of_ble_eq_true rfl)⟩ ⟨(Nat.le_of_ble_eq_true rfl), (Nat.le_of_ble_eq_true rfl)⟩ dL_isDue_94) hS (fun _ h => h) rfl (fun locs hS => ?_)
  rw [show (f_J6_bitCount_0f7a4 (ow_ v wo 3)) = (cb_ v wo 3) from rfl]
  refine lv_iload S.1 S.2.1 dL_isDue_97 (lv_at hl 1 rfl) ?_
  refine lv_icmp_ne (tgt := 106) S.1 S.2.1 dL_isDue_99 (by decide) (fun z9 => absurd (h2) z9) (fun _ => ?_)
  refine lv_iconst (v := 1) S.1 S.2.1 dL_isDue_102 (by decide) ?_
  refine lv_goto (tgt := 107) S.1 S.2.1 dL_isDue_103 (by decide) ?_
  refine lv_istore (lv' := [(6, .int 1), (5, .int (dM_ v wo)), (4, .int (dT_ v wo)), (7, .int (cb_ v wo 3)), (0, .ref (α 0)), (1, .int 3), (2, .int need), (3, .int wo)]) S.1 S.2.1 dL_isDue_107 hl (by decide) rfl (fun ls hl => ?_)
  refine lv_aload_n S.1 S.2.1 dL_isDue_109 rfl (lv_at hl 4 rfl) ?_
  refine lv_iload_n S.1 S.2.1 dL_isDue_110 rfl (lv_at hl 5 rfl) ?_
  refine x_aftR (st1 := [.int (a_owners v (3 : Int32))]) (x_V0 (As := [.int 3]) (rest := []) S mi_X11_owners qw1313 (k_owners l D A w α (3 : Int32) hB) hK hP hD (hE.kept hS.2.1) (hB.recv hK hP) rfl rfl hl.1 (Nat.le_of_ble_eq_true rfl) rfl rfl ⟨(Nat.le_of_ble_eq_true rfl), (Nat.le_of_ble_eq_true rfl)⟩ ⟨(Nat.le_of_ble_eq_true rfl), (Nat.le_of_ble_eq_true rfl)⟩ dL_isDue_111) hS (fun _ h => h) rfl (fun locs hS => ?_)
  refine lv_iload_n S.1 S.2.1 dL_isDue_114 rfl (lv_at hl 7 rfl) ?_
  refine lv_iconst (v := (-1)) S.1 S.2.1 dL_isDue_115 (by decide) ?_
  refine lv_ixor S.1 S.2.1 dL_isDue_116 ?_
  refine lv_iand S.1 S.2.1 dL_isDue_117 ?_
  rw [show ((a_owners v (3 : Int32)) &&& (wo ^^^ (-1))) = (ow_ v wo 3) from rfl]
  refine lv_istore (lv' := [(7, .int (ow_ v wo 3)), (6, .int 1), (5, .int (dM_ v wo)), (4, .int (dT_ v wo)), (0, .ref (α 0)), (1, .int 3), (2, .int need), (3, .int wo)]) S.1 S.2.1 dL_isDue_118 hl (by decide) rfl (fun ls hl => ?_)
  refine lv_iconst (v := 0) S.1 S.2.1 dL_isDue_120 (by decide) ?_
  refine lv_istore (lv' := [(8, .int 0), (7, .int (ow_ v wo 3)), (6, .int 1), (5, .int (dM_ v wo)), (4, .int (dT_ v wo)), (0, .ref (α 0)), (1, .int 3), (2, .int need), (3, .int wo)]) S.1 S.2.1 dL_isDue_121 hl (by decide) rfl (fun ls hl => ?_)
  refine lv_iload S.1 S.2.1 dL_isDue_123 (lv_at hl 0 rfl) ?_
  refine lv_iconst (v := 4) S.1 S.2.1 dL_isDue_125 (by decide) ?_
  refine lv_icmp_ge (tgt := 188) S.1 S.2.1 dL_isDue_126 (by decide) (fun z9 => absurd z9 (by decide)) (fun _ => ?_)
  refine lv_iload S.1 S.2.1 dL_isDue_129 (lv_at hl 2 rfl) ?_
  refine lv_if_eq (tgt := 188) S.1 S.2.1 dL_isDue_131 (by decide) (fun z9 => absurd z9 (by decide)) (fun _ => ?_)
  refine lv_aload_n S.1 S.2.1 dL_isDue_134 rfl (lv_at hl 5 rfl) ?_
  refine lv_iload S.1 S.2.1 dL_isDue_135 (lv_at hl 0 rfl) ?_
  refine x_aftR (st1 := [.int (a_owners v (0 : Int32))]) (x_V0 (As := [.int 0]) (rest := []) S mi_X11_owners qw1313 (k_owners l D A w α (0 : Int32) hB) hK hP hD (hE.kept hS.2.1) (hB.recv hK hP) rfl rfl hl.1 (Nat.le_of_ble_eq_true rfl) rfl rfl ⟨(Nat.le_of_ble_eq_true rfl), (Nat.le_of_ble_eq_true rfl)⟩ ⟨(Nat.le_of_ble_eq_true rfl), (Nat.le_of_ble_eq_true rfl)⟩ dL_isDue_137) hS (fun _ h => h) rfl (fun locs hS => ?_)
  refine lv_iload_n S.1 S.2.1 dL_isDue_140 rfl (lv_at hl 8 rfl) ?_
  refine lv_iconst (v := (-1)) S.1 S.2.1 dL_isDue_141 (by decide) ?_
  refine lv_ixor S.1 S.2.1 dL_isDue_142 ?_
  refine lv_iand S.1 S.2.1 dL_isDue_143 ?_
  rw [show ((a_owners v (0 : Int32)) &&& (wo ^^^ (-1))) = (ow_ v wo 0) from rfl]
  refine lv_istore (lv' := [(9, .int (ow_ v wo 0)), (8, .int 0), (7, .int (ow_ v wo 3)), (6, .int 1), (5, .int (dM_ v wo)), (4, .int (dT_ v wo)), (0, .ref (α 0)), (1, .int 3), (2, .int need), (3, .int wo)]) S.1 S.2.1 dL_isDue_144 hl (by decide) rfl (fun ls hl => ?_)
  refine lv_iload S.1 S.2.1 dL_isDue_146 (lv_at hl 1 rfl) ?_
  refine lv_iload_n S.1 S.2.1 dL_isDue_148 rfl (lv_at hl 7 rfl) ?_
  refine lv_icmp_eq (tgt := 175) S.1 S.2.1 dL_isDue_149 (by decide) (fun z9 => absurd z9 (by decide)) (fun _ => ?_)
  refine lv_iload S.1 S.2.1 dL_isDue_152 (lv_at hl 0 rfl) ?_
  refine x_aftR (st1 := [.int (f_J6_bitCount_0f7a4 (ow_ v wo 0))]) (x_St0 (As := [.int (ow_ v wo 0)]) (rest := []) S ms_J6_bitCount_0f7a4 qw1318 (c_J6_bitCount_0f7a4 l D A w α (ow_ v wo 0)) hK hP hD (hE.kept hS.2.1) rfl rfl hl.1 (Nat.le_of_ble_eq_true rfl) rfl rfl ⟨(Nat.le_of_ble_eq_true rfl), (Nat.le_of_ble_eq_true rfl)⟩ ⟨(Nat.le_of_ble_eq_true rfl), (Nat.le_of_ble_eq_true rfl)⟩ dL_isDue_154) hS (fun _ h => h) rfl (fun locs hS => ?_)
  rw [show (f_J6_bitCount_0f7a4 (ow_ v wo 0)) = (cb_ v wo 0) from rfl]
  refine lv_iload S.1 S.2.1 dL_isDue_157 (lv_at hl 4 rfl) ?_
  have k0 : ∀ (locs : List Loc) (ls : Array Slot), va_S A s.heap s.heap locs → lv_has ls 10 [(9, .int (ow_ v wo 0)), (8, .int 0), (7, .int (ow_ v wo 3)), (6, .int 1), (5, .int (dM_ v wo)), (4, .int (dT_ v wo)), (0, .ref (α 0)), (1, .int 3), (2, .int need), (3, .int wo)] → W pg l en ({ frames := 4, cells := 0, slots := 0, locals := 110 } : Room) s mi ar below me co s.heap locs 0 0 (MQ below (gR (some (.int 1))) ar s 0 0 A) (F0 mi 175 ls []) := by
    intro locs ls hS hl
    refine lv_iconst (v := 1) S.1 S.2.1 dL_isDue_175 (by decide) ?_
    refine lv_goto (tgt := 180) S.1 S.2.1 dL_isDue_176 (by decide) ?_
    refine lv_istore (lv' := [(6, .int 1), (9, .int (ow_ v wo 0)), (8, .int 0), (7, .int (ow_ v wo 3)), (5, .int (dM_ v wo)), (4, .int (dT_ v wo)), (0, .ref (α 0)), (1, .int 3), (2, .int need), (3, .int wo)]) S.1 S.2.1 dL_isDue_180 hl (by decide) rfl (fun ls hl => ?_)
    refine lv_iinc (v := 1) (lv' := [(8, .int 1), (6, .int 1), (9, .int (ow_ v wo 0)), (7, .int (ow_ v wo 3)), (5, .int (dM_ v wo)), (4, .int (dT_ v wo)), (0, .ref (α 0)), (1, .int 3), (2, .int need), (3, .int wo)]) S.1 S.2.1 dL_isDue_182 hl (k := 2) rfl (by decide) (by decide) rfl (fun ls hl => ?_)
    refine lv_goto (tgt := 123) S.1 S.2.1 dL_isDue_185 (by decide) ?_
    refine lv_iload S.1 S.2.1 dL_isDue_123 (lv_at hl 0 rfl) ?_
    refine lv_iconst (v := 4) S.1 S.2.1 dL_isDue_125 (by decide) ?_
    refine lv_icmp_ge (tgt := 188) S.1 S.2.1 dL_isDue_126 (by decide) (fun z9 => absurd z9 (by decide)) (fun _ => ?_)
    refine lv_iload S.1 S.2.1 dL_isDue_129 (lv_at hl 1 rfl) ?_
    refine lv_if_eq (tgt := 188) S.1 S.2.1 dL_isDue_131 (by decide) (fun z9 => absurd z9 (by decide)) (fun _ => ?_)
    refine lv_aload_n S.1 S.2.1 dL_isDue_134 rfl (lv_at hl 6 rfl) ?_
    refine lv_iload S.1 S.2.1 dL_isDue_135 (lv_at hl 0 rfl) ?_
    refine x_aftR (st1 := [.int (a_owners v (1 : Int32))]) (x_V0 (As := [.int 1]) (rest := []) S mi_X11_owners qw1313 (k_owners l D A w α (1 : Int32) hB) hK hP hD (hE.kept hS.2.1) (hB.recv hK hP) rfl rfl hl.1 (Nat.le_of_ble_eq_true rfl) rfl rfl ⟨(Nat.le_of_ble_eq_true rfl), (Nat.le_of_ble_eq_true rfl)⟩ ⟨(Nat.le_of_ble_eq_true rfl), (Nat.le_of_ble_eq_true rfl)⟩ dL_isDue_137) hS (fun _ h => h) rfl (fun locs hS => ?_)
    refine lv_iload_n S.1 S.2.1 dL_isDue_140 rfl (lv_at hl 9 rfl) ?_
    refine lv_iconst (v := (-1)) S.1 S.2.1 dL_isDue_141 (by decide) ?_
    refine lv_ixor S.1 S.2.1 dL_isDue_142 ?_
    refine lv_iand S.1 S.2.1 dL_isDue_143 ?_
    rw [show ((a_owners v (1 : Int32)) &&& (wo ^^^ (-1))) = (ow_ v wo 1) from rfl]
    refine lv_istore (lv' := [(9, .int (ow_ v wo 1)), (8, .int 1), (6, .int 1), (7, .int (ow_ v wo 3)), (5, .int (dM_ v wo)), (4, .int (dT_ v wo)), (0, .ref (α 0)), (1, .int 3), (2, .int need), (3, .int wo)]) S.1 S.2.1 dL_isDue_144 hl (by decide) rfl (fun ls hl => ?_)
    refine lv_iload S.1 S.2.1 dL_isDue_146 (lv_at hl 1 rfl) ?_
    refine lv_iload_n S.1 S.2.1 dL_isDue_148 rfl (lv_at hl 7 rfl) ?_
    refine lv_icmp_eq (tgt := 175) S.1 S.2.1 dL_isDue_149 (by decide) (fun z9 => absurd z9 (by decide)) (fun _ => ?_)
    refine lv_iload S.1 S.2.1 dL_isDue_152 (lv_at hl 0 rfl) ?_
    refine x_aftR (st1 := [.int (f_J6_bitCount_0f7a4 (ow_ v wo 1))]) (x_St0 (As := [.int (ow_ v wo 1)]) (rest := []) S ms_J6_bitCount_0f7a4 qw1318 (c_J6_bitCount_0f7a4 l D A w α (ow_ v wo 1)) hK hP hD (hE.kept hS.2.1) rfl rfl hl.1 (Nat.le_of_ble_eq_true rfl) rfl rfl ⟨(Nat.le_of_ble_eq_true rfl), (Nat.le_of_ble_eq_true rfl)⟩ ⟨(Nat.le_of_ble_eq_true rfl), (Nat.le_of_ble_eq_true rfl)⟩ dL_isDue_154) hS (fun _ h => h) rfl (fun locs hS => ?_)
    rw [show (f_J6_bitCount_0f7a4 (ow_ v wo 1)) = (cb_ v wo 1) from rfl]
    refine lv_iload S.1 S.2.1 dL_isDue_157 (lv_at hl 4 rfl) ?_
    have k1 : ∀ (locs : List Loc) (ls : Array Slot), va_S A s.heap s.heap locs → lv_has ls 10 [(9, .int (ow_ v wo 1)), (8, .int 1), (6, .int 1), (7, .int (ow_ v wo 3)), (5, .int (dM_ v wo)), (4, .int (dT_ v wo)), (0, .ref (α 0)), (1, .int 3), (2, .int need), (3, .int wo)] → W pg l en ({ frames := 4, cells := 0, slots := 0, locals := 110 } : Room) s mi ar below me co s.heap locs 0 0 (MQ below (gR (some (.int 1))) ar s 0 0 A) (F0 mi 175 ls []) := by
      intro locs ls hS hl
      refine lv_iconst (v := 1) S.1 S.2.1 dL_isDue_175 (by decide) ?_
      refine lv_goto (tgt := 180) S.1 S.2.1 dL_isDue_176 (by decide) ?_
      refine lv_istore (lv' := [(6, .int 1), (9, .int (ow_ v wo 1)), (8, .int 1), (7, .int (ow_ v wo 3)), (5, .int (dM_ v wo)), (4, .int (dT_ v wo)), (0, .ref (α 0)), (1, .int 3), (2, .int need), (3, .int wo)]) S.1 S.2.1 dL_isDue_180 hl (by decide) rfl (fun ls hl => ?_)
      refine lv_iinc (v := 2) (lv' := [(8, .int 2), (6, .int 1), (9, .int (ow_ v wo 1)), (7, .int (ow_ v wo 3)), (5, .int (dM_ v wo)), (4, .int (dT_ v wo)), (0, .ref (α 0)), (1, .int 3), (2, .int need), (3, .int wo)]) S.1 S.2.1 dL_isDue_182 hl (k := 2) rfl (by decide) (by decide) rfl (fun ls hl => ?_)
      refine lv_goto (tgt := 123) S.1 S.2.1 dL_isDue_185 (by decide) ?_
      refine lv_iload S.1 S.2.1 dL_isDue_123 (lv_at hl 0 rfl) ?_
      refine lv_iconst (v := 4) S.1 S.2.1 dL_isDue_125 (by decide) ?_
      refine lv_icmp_ge (tgt := 188) S.1 S.2.1 dL_isDue_126 (by decide) (fun z9 => absurd z9 (by decide)) (fun _ => ?_)
      refine lv_iload S.1 S.2.1 dL_isDue_129 (lv_at hl 1 rfl) ?_
      refine lv_if_eq (tgt := 188) S.1 S.2.1 dL_isDue_131 (by decide) (fun z9 => absurd z9 (by decide)) (fun _ => ?_)
      refine lv_aload_n S.1 S.2.1 dL_isDue_134 rfl (lv_at hl 6 rfl) ?_
      refine lv_iload S.1 S.2.1 dL_isDue_135 (lv_at hl 0 rfl) ?_
      refine x_aftR (st1 := [.int (a_owners v (2 : Int32))]) (x_V0 (As := [.int 2]) (rest := []) S mi_X11_owners qw1313 (k_owners l D A w α (2 : Int32) hB) hK hP hD (hE.kept hS.2.1) (hB.recv hK hP) rfl rfl hl.1 (Nat.le_of_ble_eq_true rfl) rfl rfl ⟨(Nat.le_of_ble_eq_true rfl), (Nat.le_of_ble_eq_true rfl)⟩ ⟨(Nat.le_of_ble_eq_true rfl), (Nat.le_of_ble_eq_true rfl)⟩ dL_isDue_137) hS (fun _ h => h) rfl (fun locs hS => ?_)
      refine lv_iload_n S.1 S.2.1 dL_isDue_140 rfl (lv_at hl 9 rfl) ?_
      refine lv_iconst (v := (-1)) S.1 S.2.1 dL_isDue_141 (by decide) ?_
      refine lv_ixor S.1 S.2.1 dL_isDue_142 ?_
      refine lv_iand S.1 S.2.1 dL_isDue_143 ?_
      rw [show ((a_owners v (2 : Int32)) &&& (wo ^^^ (-1))) = (ow_ v wo 2) from rfl]
      refine lv_istore (lv' := [(9, .int (ow_ v wo 2)), (8, .int 2), (6, .int 1), (7, .int (ow_ v wo 3)), (5, .int (dM_ v wo)), (4, .int (dT_ v wo)), (0, .ref (α 0)), (1, .int 3), (2, .int need), (3, .int wo)]) S.1 S.2.1 dL_isDue_144 hl (by decide) rfl (fun ls hl => ?_)
      refine lv_iload S.1 S.2.1 dL_isDue_146 (lv_at hl 1 rfl) ?_
      refine lv_iload_n S.1 S.2.1 dL_isDue_148 rfl (lv_at hl 7 rfl) ?_
      refine lv_icmp_eq (tgt := 175) S.1 S.2.1 dL_isDue_149 (by decide) (fun z9 => absurd z9 (by decide)) (fun _ => ?_)
      refine lv_iload S.1 S.2.1 dL_isDue_152 (lv_at hl 0 rfl) ?_
      refine x_aftR (st1 := [.int (f_J6_bitCount_0f7a4 (ow_ v wo 2))]) (x_St0 (As := [.int (ow_ v wo 2)]) (rest := []) S ms_J6_bitCount_0f7a4 qw1318 (c_J6_bitCount_0f7a4 l D A w α (ow_ v wo 2)) hK hP hD (hE.kept hS.2.1) rfl rfl hl.1 (Nat.le_of_ble_eq_true rfl) rfl rfl ⟨(Nat.le_of_ble_eq_true rfl), (Nat.le_of_ble_eq_true rfl)⟩ ⟨(Nat.le_of_ble_eq_true rfl), (Nat.le_of_ble_eq_true rfl)⟩ dL_isDue_154) hS (fun _ h => h) rfl (fun locs hS => ?_)
      rw [show (f_J6_bitCount_0f7a4 (ow_ v wo 2)) = (cb_ v wo 2) from rfl]
      refine lv_iload S.1 S.2.1 dL_isDue_157 (lv_at hl 4 rfl) ?_
      have k2 : ∀ (locs : List Loc) (ls : Array Slot), va_S A s.heap s.heap locs → lv_has ls 10 [(9, .int (ow_ v wo 2)), (8, .int 2), (6, .int 1), (7, .int (ow_ v wo 3)), (5, .int (dM_ v wo)), (4, .int (dT_ v wo)), (0, .ref (α 0)), (1, .int 3), (2, .int need), (3, .int wo)] → W pg l en ({ frames := 4, cells := 0, slots := 0, locals := 110 } : Room) s mi ar below me co s.heap locs 0 0 (MQ below (gR (some (.int 1))) ar s 0 0 A) (F0 mi 175 ls []) := by
        intro locs ls hS hl
        refine lv_iconst (v := 1) S.1 S.2.1 dL_isDue_175 (by decide) ?_
        refine lv_goto (tgt := 180) S.1 S.2.1 dL_isDue_176 (by decide) ?_
        refine lv_istore (lv' := [(6, .int 1), (9, .int (ow_ v wo 2)), (8, .int 2), (7, .int (ow_ v wo 3)), (5, .int (dM_ v wo)), (4, .int (dT_ v wo)), (0, .ref (α 0)), (1, .int 3), (2, .int need), (3, .int wo)]) S.1 S.2.1 dL_isDue_180 hl (by decide) rfl (fun ls hl => ?_)
        refine lv_iinc (v := 3) (lv' := [(8, .int 3), (6, .int 1), (9, .int (ow_ v wo 2)), (7, .int (ow_ v wo 3)), (5, .int (dM_ v wo)), (4, .int (dT_ v wo)), (0, .ref (α 0)), (1, .int 3), (2, .int need), (3, .int wo)]) S.1 S.2.1 dL_isDue_182 hl (k := 2) rfl (by decide) (by decide) rfl (fun ls hl => ?_)
        refine lv_goto (tgt := 123) S.1 S.2.1 dL_isDue_185 (by decide) ?_
        refine lv_iload S.1 S.2.1 dL_isDue_123 (lv_at hl 0 rfl) ?_
        refine lv_iconst (v := 4) S.1 S.2.1 dL_isDue_125 (by decide) ?_
        refine lv_icmp_ge (tgt := 188) S.1 S.2.1 dL_isDue_126 (by decide) (fun z9 => absurd z9 (by decide)) (fun _ => ?_)
        refine lv_iload S.1 S.2.1 dL_isDue_129 (lv_at hl 1 rfl) ?_
        refine lv_if_eq (tgt := 188) S.1 S.2.1 dL_isDue_131 (by decide) (fun z9 => absurd z9 (by decide)) (fun _ => ?_)
        refine lv_aload_n S.1 S.2.1 dL_isDue_134 rfl (lv_at hl 6 rfl) ?_
        refine lv_iload S.1 S.2.1 dL_isDue_135 (lv_at hl 0 rfl) ?_
        refine x_aftR (st1 := [.int (a_owners v (3 : Int32))]) (x_V0 (As := [.int 3]) (rest := []) S mi_X11_owners qw1313 (k_owners l D A w α (3 : Int32) hB) hK hP hD (hE.kept hS.2.1) (hB.recv hK hP) rfl rfl hl.1 (Nat.le_of_ble_eq_true rfl) rfl rfl ⟨(Nat.le_of_ble_eq_true rfl), (Nat.le_of_ble_eq_true rfl)⟩ ⟨(Nat.le_of_ble_eq_true rfl), (Nat.le_of_ble_eq_true rfl)⟩ dL_isDue_137) hS (fun _ h => h) rfl (fun locs hS => ?_)
        refine lv_iload_n S.1 S.2.1 dL_isDue_140 rfl (lv_at hl 9 rfl) ?_
        refine lv_iconst (v := (-1)) S.1 S.2.1 dL_isDue_141 (by decide) ?_
        refine lv_ixor S.1 S.2.1 dL_isDue_142 ?_
        refine lv_iand S.1 S.2.1 dL_isDue_143 ?_
        rw [show ((a_owners v (3 : Int32)) &&& (wo ^^^ (-1))) = (ow_ v wo 3) from rfl]
        refine lv_istore (lv' := [(9, .int (ow_ v wo 3)), (8, .int 3), (6, .int 1), (7, .int (ow_ v wo 3)), (5, .int (dM_ v wo)), (4, .int (dT_ v wo)), (0, .ref (α 0)), (1, .int 3), (2, .int need), (3, .int wo)]) S.1 S.2.1 dL_isDue_144 hl (by decide) rfl (fun ls hl => ?_)
        refine lv_iload S.1 S.2.1 dL_isDue_146 (lv_at hl 1 rfl) ?_
        refine lv_iload_n S.1 S.2.1 dL_isDue_148 rfl (lv_at hl 7 rfl) ?_
        refine lv_icmp_eq (tgt := 175) S.1 S.2.1 dL_isDue_149 (by decide) (fun _ => ?_) (fun z9 => absurd (by decide) z9)
        refine lv_iconst (v := 1) S.1 S.2.1 dL_isDue_175 (by decide) ?_
        refine lv_goto (tgt := 180) S.1 S.2.1 dL_isDue_176 (by decide) ?_
        refine lv_istore (lv' := [(6, .int 1), (9, .int (ow_ v wo 3)), (8, .int 3), (7, .int (ow_ v wo 3)), (5, .int (dM_ v wo)), (4, .int (dT_ v wo)), (0, .ref (α 0)), (1, .int 3), (2, .int need), (3, .int wo)]) S.1 S.2.1 dL_isDue_180 hl (by decide) rfl (fun ls hl => ?_)
        refine lv_iinc (v := 4) (lv' := [(8, .int 4), (6, .int 1), (9, .int (ow_ v wo 3)), (7, .int (ow_ v wo 3)), (5, .int (dM_ v wo)), (4, .int (dT_ v wo)), (0, .ref (α 0)), (1, .int 3), (2, .int need), (3, .int wo)]) S.1 S.2.1 dL_isDue_182 hl (k := 2) rfl (by decide) (by decide) rfl (fun ls hl => ?_)
        refine lv_goto (tgt := 123) S.1 S.2.1 dL_isDue_185 (by decide) ?_
        refine lv_iload S.1 S.2.1 dL_isDue_123 (lv_at hl 0 rfl) ?_
        refine lv_iconst (v := 4) S.1 S.2.1 dL_isDue_125 (by decide) ?_
        refine lv_icmp_ge (tgt := 188) S.1 S.2.1 dL_isDue_126 (by decide) (fun _ => ?_) (fun z9 => absurd (by decide) z9)
        refine lv_iload S.1 S.2.1 dL_isDue_188 (lv_at hl 1 rfl) ?_
        exact g_nretR S hr hlk hS (by decide) rfl dL_isDue_190
      refine lv_icmp_lt (tgt := 175) S.1 S.2.1 dL_isDue_159 (by decide) (fun c => ?_) (fun c => ?_)
      · exact k2 _ _ hS hl
      · refine lv_iload S.1 S.2.1 dL_isDue_162 (lv_at hl 3 rfl) ?_
        refine x_aftR (st1 := [.int ((ow_ v wo 3) &&& -(ow_ v wo 3))]) (x_St (As := [.int (ow_ v wo 3)]) (rest := []) S ms_J6_lowestOneBit_0f7a4 qw1380 (x_J6_lowestOneBit_0f7a4 l D A w (ow_ v wo 3)) stX_t hK hP hD (hE.kept hS.2.1) trivial rfl rfl hl.1 (Nat.le_of_ble_eq_true rfl) rfl rfl ⟨(Nat.le_of_ble_eq_true rfl), (Nat.le_of_ble_eq_true rfl)⟩ ⟨(Nat.le_of_ble_eq_true rfl), (Nat.le_of_ble_eq_true rfl)⟩ dL_isDue_164) hS (fun _ h => h) rfl (fun locs hS => ?_)
        rw [show ((ow_ v wo 3) &&& -(ow_ v wo 3)) = (lo_ v wo 3) from rfl]
        refine lv_iload S.1 S.2.1 dL_isDue_167 (lv_at hl 0 rfl) ?_
        refine x_aftR (st1 := [.int ((ow_ v wo 2) &&& -(ow_ v wo 2)), .int (lo_ v wo 3)]) (x_St (As := [.int (ow_ v wo 2)]) (rest := [.int (lo_ v wo 3)]) S ms_J6_lowestOneBit_0f7a4 qw1380 (x_J6_lowestOneBit_0f7a4 l D A w (ow_ v wo 2)) stX_t hK hP hD (hE.kept hS.2.1) trivial rfl rfl hl.1 (Nat.le_of_ble_eq_true rfl) rfl rfl ⟨(Nat.le_of_ble_eq_true rfl), (Nat.le_of_ble_eq_true rfl)⟩ ⟨(Nat.le_of_ble_eq_true rfl), (Nat.le_of_ble_eq_true rfl)⟩ dL_isDue_169) hS (fun _ h => h) rfl (fun locs hS => ?_)
        rw [show ((ow_ v wo 2) &&& -(ow_ v wo 2)) = (lo_ v wo 2) from rfl]
        refine lv_icmp_ge (tgt := 179) S.1 S.2.1 dL_isDue_172 (by decide) (fun z9 => absurd z9 (Int32.not_le.mpr (((h3 2 (by decide)).resolve_left (by decide)).resolve_left c))) (fun _ => ?_)
        exact k2 _ _ hS hl
    refine lv_icmp_lt (tgt := 175) S.1 S.2.1 dL_isDue_159 (by decide) (fun c => ?_) (fun c => ?_)
    · exact k1 _ _ hS hl
    · refine lv_iload S.1 S.2.1 dL_isDue_162 (lv_at hl 3 rfl) ?_
      refine x_aftR (st1 := [.int ((ow_ v wo 3) &&& -(ow_ v wo 3))]) (x_St (As := [.int (ow_ v wo 3)]) (rest := []) S ms_J6_lowestOneBit_0f7a4 qw1380 (x_J6_lowestOneBit_0f7a4 l D A w (ow_ v wo 3)) stX_t hK hP hD (hE.kept hS.2.1) trivial rfl rfl hl.1 (Nat.le_of_ble_eq_true rfl) rfl rfl ⟨(Nat.le_of_ble_eq_true rfl), (Nat.le_of_ble_eq_true rfl)⟩ ⟨(Nat.le_of_ble_eq_true rfl), (Nat.le_of_ble_eq_true rfl)⟩ dL_isDue_164) hS (fun _ h => h) rfl (fun locs hS => ?_)
      rw [show ((ow_ v wo 3) &&& -(ow_ v wo 3)) = (lo_ v wo 3) from rfl]
      refine lv_iload S.1 S.2.1 dL_isDue_167 (lv_at hl 0 rfl) ?_
      refine x_aftR (st1 := [.int ((ow_ v wo 1) &&& -(ow_ v wo 1)), .int (lo_ v wo 3)]) (x_St (As := [.int (ow_ v wo 1)]) (rest := [.int (lo_ v wo 3)]) S ms_J6_lowestOneBit_0f7a4 qw1380 (x_J6_lowestOneBit_0f7a4 l D A w (ow_ v wo 1)) stX_t hK hP hD (hE.kept hS.2.1) trivial rfl rfl hl.1 (Nat.le_of_ble_eq_true rfl) rfl rfl ⟨(Nat.le_of_ble_eq_true rfl), (Nat.le_of_ble_eq_true rfl)⟩ ⟨(Nat.le_of_ble_eq_true rfl), (Nat.le_of_ble_eq_true rfl)⟩ dL_isDue_169) hS (fun _ h => h) rfl (fun locs hS => ?_)
      rw [show ((ow_ v wo 1) &&& -(ow_ v wo 1)) = (lo_ v wo 1) from rfl]
      refine lv_icmp_ge (tgt := 179) S.1 S.2.1 dL_isDue_172 (by decide) (fun z9 => absurd z9 (Int32.not_le.mpr (((h3 1 (by decide)).resolve_left (by decide)).resolve_left c))) (fun _ => ?_)
      exact k1 _ _ hS hl
  refine lv_icmp_lt (tgt := 175) S.1 S.2.1 dL_isDue_159 (by decide) (fun c => ?_) (fun c => ?_)
  · exact k0 _ _ hS hl
  · refine lv_iload S.1 S.2.1 dL_isDue_162 (lv_at hl 2 rfl) ?_
    refine x_aftR (st1 := [.int ((ow_ v wo 3) &&& -(ow_ v wo 3))]) (x_St (As := [.int (ow_ v wo 3)]) (rest := []) S ms_J6_lowestOneBit_0f7a4 qw1380 (x_J6_lowestOneBit_0f7a4 l D A w (ow_ v wo 3)) stX_t hK hP hD (hE.kept hS.2.1) trivial rfl rfl hl.1 (Nat.le_of_ble_eq_true rfl) rfl rfl ⟨(Nat.le_of_ble_eq_true rfl), (Nat.le_of_ble_eq_true rfl)⟩ ⟨(Nat.le_of_ble_eq_true rfl), (Nat.le_of_ble_eq_true rfl)⟩ dL_isDue_164) hS (fun _ h => h) rfl (fun locs hS => ?_)
    rw [show ((ow_ v wo 3) &&& -(ow_ v wo 3)) = (lo_ v wo 3) from rfl]
    refine lv_iload S.1 S.2.1 dL_isDue_167 (lv_at hl 0 rfl) ?_
    refine x_aftR (st1 := [.int ((ow_ v wo 0) &&& -(ow_ v wo 0)), .int (lo_ v wo 3)]) (x_St (As := [.int (ow_ v wo 0)]) (rest := [.int (lo_ v wo 3)]) S ms_J6_lowestOneBit_0f7a4 qw1380 (x_J6_lowestOneBit_0f7a4 l D A w (ow_ v wo 0)) stX_t hK hP hD (hE.kept hS.2.1) trivial rfl rfl hl.1 (Nat.le_of_ble_eq_true rfl) rfl rfl ⟨(Nat.le_of_ble_eq_true rfl), (Nat.le_of_ble_eq_true rfl)⟩ ⟨(Nat.le_of_ble_eq_true rfl), (Nat.le_of_ble_eq_true rfl)⟩ dL_isDue_169) hS (fun _ h => h) rfl (fun locs hS => ?_)
    rw [show ((ow_ v wo 0) &&& -(ow_ v wo 0)) = (lo_ v wo 0) from rfl]
    refine lv_icmp_ge (tgt := 179) S.1 S.2.1 dL_isDue_172 (by decide) (fun z9 => absurd z9 (Int32.not_le.mpr (((h3 0 (by decide)).resolve_left (by decide)).resolve_left c))) (fun _ => ?_)
    exact k0 _ _ hS hl
theorem l_isDue (l : Launch) (D : va_G) (A : Nat → Prop) (w : va_W) (α : Nat → Nat) {v : VT} (hB : OB D α w v) (r need wo : Int32) (hd : DUE v r need wo) : Met l yL_isDue (ws_ yL_isDue cL_isDue 10 (Option.some Jvm.ClassFile.FieldType.boolean)) ({ frames := 4, cells := 0, slots := 0, locals := 110 } : Room) (gPre D A [.ref (α 0), .int r, .int need, .int wo] w) (gR (some (.int 1))) 0 0 A := by
  rcases hd with ⟨h, hd⟩ | ⟨h, h1, h2, h3⟩
  · subst h
    exact l_isDue_m l D A w α hB need wo hd
  · rcases h with h | h | h | h
    all_goals subst h
    · exact l_isDue_0 l D A w α hB need wo h1 h2 h3
    · exact l_isDue_1 l D A w α hB need wo h1 h2 h3
    · exact l_isDue_2 l D A w α hB need wo h1 h2 h3
    · exact l_isDue_3 l D A w α hB need wo h1 h2 h3
