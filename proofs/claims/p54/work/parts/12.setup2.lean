def f_X7_makeFirstVillage (nums : Nat → Int32) (pNames : Nat → Int32) (fBoats : Nat → Int32) : (Nat → Int32) × Int32 × Int32 × (Nat → Int32) × (Nat → Int32) := ((f_X7_addPerson ((f_X7_addPerson pNames fBoats ((f_X7_clear).2) 33554432 (-2)).2.2) ((f_X7_addPerson pNames fBoats ((f_X7_clear).2) 33554432 (-2)).1) ((f_X7_addPerson pNames fBoats ((f_X7_clear).2) 33554432 (-2)).2.1) 67108864 (-2)).1, (f_X7_clear).1, (f_X7_addPerson ((f_X7_addPerson pNames fBoats ((f_X7_clear).2) 33554432 (-2)).2.2) ((f_X7_addPerson pNames fBoats ((f_X7_clear).2) 33554432 (-2)).1) ((f_X7_addPerson pNames fBoats ((f_X7_clear).2) 33554432 (-2)).2.1) 67108864 (-2)).2.1, (f_X7_setNumber (f_X7_setNumber (f_X7_setNumber (f_X7_setNumber (f_X7_setNumber (f_X7_setNumber (f_X7_setNumber (f_X7_setNumber (f_X7_setNumber (f_X7_setNumber nums 0 90) (1 + 0) 50) (1 + 1) 50) (1 + 2) 50) (1 + 3) 50) 5 1) 6 1) 7 1) 8 3) 9 1), (f_X7_addPerson ((f_X7_addPerson pNames fBoats ((f_X7_clear).2) 33554432 (-2)).2.2) ((f_X7_addPerson pNames fBoats ((f_X7_clear).2) 33554432 (-2)).1) ((f_X7_addPerson pNames fBoats ((f_X7_clear).2) 33554432 (-2)).2.1) 67108864 (-2)).2.2)
set_option maxHeartbeats 4000000 in
set_option maxRecDepth 100000 in
theorem c_X7_makeFirstVillage (l : Launch) (D : va_G) (A : Nat → Prop) (w : va_W) (α : Nat → Nat) (k : Nat) (nums : Nat → Int32) (bNames : Nat → Int32) (pNames : Nat → Int32) (fBoats : Nat → Int32) (nB : Int32) (nP : Int32) (hB0 : Blk w k (cSetup D α k nums bNames pNames fBoats nB nP)) : Met l yX7_makeFirstVillage (ws_ yX7_makeFirstVillage cX7_makeFirstVillage 2 none) ({ frames := 2, cells := 0, slots := 0, locals := 44 }) (gPre D A [.ref (α (k))] w) (gQ D A none (fun w1 => Blk w1 k (cSetup D α k ((f_X7_makeFirstVillage nums pNames fBoats).2.2.2.1) bNames ((f_X7_makeFirstVillage nums pNames fBoats).2.2.2.2) ((f_X7_makeFirstVillage nums pNames fBoats).1) ((f_X7_makeFirstVillage nums pNames fBoats).2.1) ((f_X7_makeFirstVillage nums pNames fBoats).2.2.1)) ∧ Same w w1 k 5)) 0 0 A := by
  refine g_met [(0, .ref (α (k)))] (plainFor_of_name (by decide)) (Nat.le_of_ble_eq_true rfl) rfl (fun pg en s mi ar below me co ls S hK hP hD hE hS hr hlk hnm hl => ?_)
  have hF : Same w w k 5 := Same.rf
  refine lv_aload_n S.1 S.2.1 dX7_makeFirstVillage_0 rfl (lv_at hl 0 rfl) ?_
  refine g_aft0 (st1 := []) (g_V (As := []) (rest := []) S mi_X7_clear qw306 (c_X7_clear l D A w α (k) nums bNames pNames fBoats nB nP hB0) hK hP hD hE hS (hB0 0 _ rfl) rfl rfl rfl hl.1 (Nat.le_of_ble_eq_true rfl) rfl rfl ⟨(Nat.le_of_ble_eq_true rfl), (Nat.le_of_ble_eq_true rfl)⟩ ⟨(Nat.le_of_ble_eq_true rfl), (Nat.le_of_ble_eq_true rfl)⟩ dX7_makeFirstVillage_1) hS rfl (fun w1 H locs hQ hP hD hS => ?_)
  have hF := hF.trans hQ.2
  have hB0 : Blk w1 k (cSetup D α k nums bNames pNames fBoats ((f_X7_clear).1) ((f_X7_clear).2)) := hQ.1
  refine lv_aload_n S.1 S.2.1 dX7_makeFirstVillage_4 rfl (lv_at hl 0 rfl) ?_
  refine lv_iconst (v := 0) S.1 S.2.1 dX7_makeFirstVillage_5 (by decide) ?_
  refine lv_bipush (v := 90) S.1 S.2.1 dX7_makeFirstVillage_6 (by decide) ?_
  refine g_aft0 (st1 := []) (g_V (As := [.int 0, .int 90]) (rest := []) S mi_X7_setNumber qw310 (c_X7_setNumber l D A w1 α (k) nums bNames pNames fBoats ((f_X7_clear).1) ((f_X7_clear).2) 0 90 hB0) hK hP hD hE hS (hB0 0 _ rfl) rfl rfl rfl hl.1 (Nat.le_of_ble_eq_true rfl) rfl rfl ⟨(Nat.le_of_ble_eq_true rfl), (Nat.le_of_ble_eq_true rfl)⟩ ⟨(Nat.le_of_ble_eq_true rfl), (Nat.le_of_ble_eq_true rfl)⟩ dX7_makeFirstVillage_8) hS rfl (fun w2 H locs hQ hP hD hS => ?_)
  have hF := hF.trans hQ.2
  have hB0 : Blk w2 k (cSetup D α k (f_X7_setNumber nums 0 90) bNames pNames fBoats ((f_X7_clear).1) ((f_X7_clear).2)) := hQ.1
  refine lv_iconst (v := 0) S.1 S.2.1 dX7_makeFirstVillage_11 (by decide) ?_
  refine lv_istore_n (lv' := [(1, .int 0), (0, .ref (α (k)))]) S.1 S.2.1 dX7_makeFirstVillage_12 rfl hl (by decide) rfl (fun ls hl => ?_)
  refine lv_iload_n S.1 S.2.1 dX7_makeFirstVillage_13 rfl (lv_at hl 0 rfl) ?_
  refine lv_iconst (v := 4) S.1 S.2.1 dX7_makeFirstVillage_14 (by decide) ?_
  refine lv_icmp_ge (tgt := 33) S.1 S.2.1 dX7_makeFirstVillage_15 (by decide) (fun c1 => absurd c1 (by decide)) (fun _ => ?_)
  refine lv_aload_n S.1 S.2.1 dX7_makeFirstVillage_18 rfl (lv_at hl 1 rfl) ?_
  refine lv_iconst (v := 1) S.1 S.2.1 dX7_makeFirstVillage_19 (by decide) ?_
  refine lv_iload_n S.1 S.2.1 dX7_makeFirstVillage_20 rfl (lv_at hl 0 rfl) ?_
  refine lv_iadd S.1 S.2.1 dX7_makeFirstVillage_21 ?_
  refine lv_bipush (v := 50) S.1 S.2.1 dX7_makeFirstVillage_22 (by decide) ?_
  refine g_aft0 (st1 := []) (g_V (As := [.int (1 + 0), .int 50]) (rest := []) S mi_X7_setNumber qw310 (c_X7_setNumber l D A w2 α (k) (f_X7_setNumber nums 0 90) bNames pNames fBoats ((f_X7_clear).1) ((f_X7_clear).2) (1 + 0) 50 hB0) hK hP hD hE hS (hB0 0 _ rfl) rfl rfl rfl hl.1 (Nat.le_of_ble_eq_true rfl) rfl rfl ⟨(Nat.le_of_ble_eq_true rfl), (Nat.le_of_ble_eq_true rfl)⟩ ⟨(Nat.le_of_ble_eq_true rfl), (Nat.le_of_ble_eq_true rfl)⟩ dX7_makeFirstVillage_24) hS rfl (fun w3 H locs hQ hP hD hS => ?_)
  have hF := hF.trans hQ.2
  have hB0 : Blk w3 k (cSetup D α k (f_X7_setNumber (f_X7_setNumber nums 0 90) (1 + 0) 50) bNames pNames fBoats ((f_X7_clear).1) ((f_X7_clear).2)) := hQ.1
  refine lv_iinc (v := 1) (lv' := [(1, .int 1), (0, .ref (α (k)))]) S.1 S.2.1 dX7_makeFirstVillage_27 hl (k := 0) rfl (by decide) (by decide) rfl (fun ls hl => ?_)
  refine lv_goto (tgt := 13) S.1 S.2.1 dX7_makeFirstVillage_30 (by decide) ?_
  refine lv_iload_n S.1 S.2.1 dX7_makeFirstVillage_13 rfl (lv_at hl 0 rfl) ?_
  refine lv_iconst (v := 4) S.1 S.2.1 dX7_makeFirstVillage_14 (by decide) ?_
  refine lv_icmp_ge (tgt := 33) S.1 S.2.1 dX7_makeFirstVillage_15 (by decide) (fun c2 => absurd c2 (by decide)) (fun _ => ?_)
  refine lv_aload_n S.1 S.2.1 dX7_makeFirstVillage_18 rfl (lv_at hl 1 rfl) ?_
  refine lv_iconst (v := 1) S.1 S.2.1 dX7_makeFirstVillage_19 (by decide) ?_
  refine lv_iload_n S.1 S.2.1 dX7_makeFirstVillage_20 rfl (lv_at hl 0 rfl) ?_
  refine lv_iadd S.1 S.2.1 dX7_makeFirstVillage_21 ?_
  refine lv_bipush (v := 50) S.1 S.2.1 dX7_makeFirstVillage_22 (by decide) ?_
  refine g_aft0 (st1 := []) (g_V (As := [.int (1 + 1), .int 50]) (rest := []) S mi_X7_setNumber qw310 (c_X7_setNumber l D A w3 α (k) (f_X7_setNumber (f_X7_setNumber nums 0 90) (1 + 0) 50) bNames pNames fBoats ((f_X7_clear).1) ((f_X7_clear).2) (1 + 1) 50 hB0) hK hP hD hE hS (hB0 0 _ rfl) rfl rfl rfl hl.1 (Nat.le_of_ble_eq_true rfl) rfl rfl ⟨(Nat.le_of_ble_eq_true rfl), (Nat.le_of_ble_eq_true rfl)⟩ ⟨(Nat.le_of_ble_eq_true rfl), (Nat.le_of_ble_eq_true rfl)⟩ dX7_makeFirstVillage_24) hS rfl (fun w4 H locs hQ hP hD hS => ?_)
  have hF := hF.trans hQ.2
  have hB0 : Blk w4 k (cSetup D α k (f_X7_setNumber (f_X7_setNumber (f_X7_setNumber nums 0 90) (1 + 0) 50) (1 + 1) 50) bNames pNames fBoats ((f_X7_clear).1) ((f_X7_clear).2)) := hQ.1
  refine lv_iinc (v := 2) (lv' := [(1, .int 2), (0, .ref (α (k)))]) S.1 S.2.1 dX7_makeFirstVillage_27 hl (k := 0) rfl (by decide) (by decide) rfl (fun ls hl => ?_)
  refine lv_goto (tgt := 13) S.1 S.2.1 dX7_makeFirstVillage_30 (by decide) ?_
  refine lv_iload_n S.1 S.2.1 dX7_makeFirstVillage_13 rfl (lv_at hl 0 rfl) ?_
  refine lv_iconst (v := 4) S.1 S.2.1 dX7_makeFirstVillage_14 (by decide) ?_
  refine lv_icmp_ge (tgt := 33) S.1 S.2.1 dX7_makeFirstVillage_15 (by decide) (fun c3 => absurd c3 (by decide)) (fun _ => ?_)
  refine lv_aload_n S.1 S.2.1 dX7_makeFirstVillage_18 rfl (lv_at hl 1 rfl) ?_
  refine lv_iconst (v := 1) S.1 S.2.1 dX7_makeFirstVillage_19 (by decide) ?_
  refine lv_iload_n S.1 S.2.1 dX7_makeFirstVillage_20 rfl (lv_at hl 0 rfl) ?_
  refine lv_iadd S.1 S.2.1 dX7_makeFirstVillage_21 ?_
  refine lv_bipush (v := 50) S.1 S.2.1 dX7_makeFirstVillage_22 (by decide) ?_
  refine g_aft0 (st1 := []) (g_V (As := [.int (1 + 2), .int 50]) (rest := []) S mi_X7_setNumber qw310 (c_X7_setNumber l D A w4 α (k) (f_X7_setNumber (f_X7_setNumber (f_X7_setNumber nums 0 90) (1 + 0) 50) (1 + 1) 50) bNames pNames fBoats ((f_X7_clear).1) ((f_X7_clear).2) (1 + 2) 50 hB0) hK hP hD hE hS (hB0 0 _ rfl) rfl rfl rfl hl.1 (Nat.le_of_ble_eq_true rfl) rfl rfl ⟨(Nat.le_of_ble_eq_true rfl), (Nat.le_of_ble_eq_true rfl)⟩ ⟨(Nat.le_of_ble_eq_true rfl), (Nat.le_of_ble_eq_true rfl)⟩ dX7_makeFirstVillage_24) hS rfl (fun w5 H locs hQ hP hD hS => ?_)
  have hF := hF.trans hQ.2
  have hB0 : Blk w5 k (cSetup D α k (f_X7_setNumber (f_X7_setNumber (f_X7_setNumber (f_X7_setNumber nums 0 90) (1 + 0) 50) (1 + 1) 50) (1 + 2) 50) bNames pNames fBoats ((f_X7_clear).1) ((f_X7_clear).2)) := hQ.1
  refine lv_iinc (v := 3) (lv' := [(1, .int 3), (0, .ref (α (k)))]) S.1 S.2.1 dX7_makeFirstVillage_27 hl (k := 0) rfl (by decide) (by decide) rfl (fun ls hl => ?_)
  refine lv_goto (tgt := 13) S.1 S.2.1 dX7_makeFirstVillage_30 (by decide) ?_
  refine lv_iload_n S.1 S.2.1 dX7_makeFirstVillage_13 rfl (lv_at hl 0 rfl) ?_
  refine lv_iconst (v := 4) S.1 S.2.1 dX7_makeFirstVillage_14 (by decide) ?_
  refine lv_icmp_ge (tgt := 33) S.1 S.2.1 dX7_makeFirstVillage_15 (by decide) (fun c4 => absurd c4 (by decide)) (fun _ => ?_)
  refine lv_aload_n S.1 S.2.1 dX7_makeFirstVillage_18 rfl (lv_at hl 1 rfl) ?_
  refine lv_iconst (v := 1) S.1 S.2.1 dX7_makeFirstVillage_19 (by decide) ?_
  refine lv_iload_n S.1 S.2.1 dX7_makeFirstVillage_20 rfl (lv_at hl 0 rfl) ?_
  refine lv_iadd S.1 S.2.1 dX7_makeFirstVillage_21 ?_
  refine lv_bipush (v := 50) S.1 S.2.1 dX7_makeFirstVillage_22 (by decide) ?_
  refine g_aft0 (st1 := []) (g_V (As := [.int (1 + 3), .int 50]) (rest := []) S mi_X7_setNumber qw310 (c_X7_setNumber l D A w5 α (k) (f_X7_setNumber (f_X7_setNumber (f_X7_setNumber (f_X7_setNumber nums 0 90) (1 + 0) 50) (1 + 1) 50) (1 + 2) 50) bNames pNames fBoats ((f_X7_clear).1) ((f_X7_clear).2) (1 + 3) 50 hB0) hK hP hD hE hS (hB0 0 _ rfl) rfl rfl rfl hl.1 (Nat.le_of_ble_eq_true rfl) rfl rfl ⟨(Nat.le_of_ble_eq_true rfl), (Nat.le_of_ble_eq_true rfl)⟩ ⟨(Nat.le_of_ble_eq_true rfl), (Nat.le_of_ble_eq_true rfl)⟩ dX7_makeFirstVillage_24) hS rfl (fun w6 H locs hQ hP hD hS => ?_)
  have hF := hF.trans hQ.2
  have hB0 : Blk w6 k (cSetup D α k (f_X7_setNumber (f_X7_setNumber (f_X7_setNumber (f_X7_setNumber (f_X7_setNumber nums 0 90) (1 + 0) 50) (1 + 1) 50) (1 + 2) 50) (1 + 3) 50) bNames pNames fBoats ((f_X7_clear).1) ((f_X7_clear).2)) := hQ.1
  refine lv_iinc (v := 4) (lv' := [(1, .int 4), (0, .ref (α (k)))]) S.1 S.2.1 dX7_makeFirstVillage_27 hl (k := 0) rfl (by decide) (by decide) rfl (fun ls hl => ?_)
  refine lv_goto (tgt := 13) S.1 S.2.1 dX7_makeFirstVillage_30 (by decide) ?_
  refine lv_iload_n S.1 S.2.1 dX7_makeFirstVillage_13 rfl (lv_at hl 0 rfl) ?_
  refine lv_iconst (v := 4) S.1 S.2.1 dX7_makeFirstVillage_14 (by decide) ?_
  refine lv_icmp_ge (tgt := 33) S.1 S.2.1 dX7_makeFirstVillage_15 (by decide) (fun _ => ?_) (fun c5 => absurd c5 (by decide))
  refine lv_aload_n S.1 S.2.1 dX7_makeFirstVillage_33 rfl (lv_at hl 1 rfl) ?_
  refine lv_iconst (v := 5) S.1 S.2.1 dX7_makeFirstVillage_34 (by decide) ?_
  refine lv_iconst (v := 1) S.1 S.2.1 dX7_makeFirstVillage_35 (by decide) ?_
  refine g_aft0 (st1 := []) (g_V (As := [.int 5, .int 1]) (rest := []) S mi_X7_setNumber qw310 (c_X7_setNumber l D A w6 α (k) (f_X7_setNumber (f_X7_setNumber (f_X7_setNumber (f_X7_setNumber (f_X7_setNumber nums 0 90) (1 + 0) 50) (1 + 1) 50) (1 + 2) 50) (1 + 3) 50) bNames pNames fBoats ((f_X7_clear).1) ((f_X7_clear).2) 5 1 hB0) hK hP hD hE hS (hB0 0 _ rfl) rfl rfl rfl hl.1 (Nat.le_of_ble_eq_true rfl) rfl rfl ⟨(Nat.le_of_ble_eq_true rfl), (Nat.le_of_ble_eq_true rfl)⟩ ⟨(Nat.le_of_ble_eq_true rfl), (Nat.le_of_ble_eq_true rfl)⟩ dX7_makeFirstVillage_36) hS rfl (fun w7 H locs hQ hP hD hS => ?_)
  have hF := hF.trans hQ.2
  have hB0 : Blk w7 k (cSetup D α k (f_X7_setNumber (f_X7_setNumber (f_X7_setNumber (f_X7_setNumber (f_X7_setNumber (f_X7_setNumber nums 0 90) (1 + 0) 50) (1 + 1) 50) (1 + 2) 50) (1 + 3) 50) 5 1) bNames pNames fBoats ((f_X7_clear).1) ((f_X7_clear).2)) := hQ.1
  refine lv_aload_n S.1 S.2.1 dX7_makeFirstVillage_39 rfl (lv_at hl 1 rfl) ?_
  refine lv_bipush (v := 6) S.1 S.2.1 dX7_makeFirstVillage_40 (by decide) ?_
  refine lv_iconst (v := 1) S.1 S.2.1 dX7_makeFirstVillage_42 (by decide) ?_
  refine g_aft0 (st1 := []) (g_V (As := [.int 6, .int 1]) (rest := []) S mi_X7_setNumber qw310 (c_X7_setNumber l D A w7 α (k) (f_X7_setNumber (f_X7_setNumber (f_X7_setNumber (f_X7_setNumber (f_X7_setNumber (f_X7_setNumber nums 0 90) (1 + 0) 50) (1 + 1) 50) (1 + 2) 50) (1 + 3) 50) 5 1) bNames pNames fBoats ((f_X7_clear).1) ((f_X7_clear).2) 6 1 hB0) hK hP hD hE hS (hB0 0 _ rfl) rfl rfl rfl hl.1 (Nat.le_of_ble_eq_true rfl) rfl rfl ⟨(Nat.le_of_ble_eq_true rfl), (Nat.le_of_ble_eq_true rfl)⟩ ⟨(Nat.le_of_ble_eq_true rfl), (Nat.le_of_ble_eq_true rfl)⟩ dX7_makeFirstVillage_43) hS rfl (fun w8 H locs hQ hP hD hS => ?_)
  have hF := hF.trans hQ.2
  have hB0 : Blk w8 k (cSetup D α k (f_X7_setNumber (f_X7_setNumber (f_X7_setNumber (f_X7_setNumber (f_X7_setNumber (f_X7_setNumber (f_X7_setNumber nums 0 90) (1 + 0) 50) (1 + 1) 50) (1 + 2) 50) (1 + 3) 50) 5 1) 6 1) bNames pNames fBoats ((f_X7_clear).1) ((f_X7_clear).2)) := hQ.1
  refine lv_aload_n S.1 S.2.1 dX7_makeFirstVillage_46 rfl (lv_at hl 1 rfl) ?_
  refine lv_bipush (v := 7) S.1 S.2.1 dX7_makeFirstVillage_47 (by decide) ?_
  refine lv_iconst (v := 1) S.1 S.2.1 dX7_makeFirstVillage_49 (by decide) ?_
  refine g_aft0 (st1 := []) (g_V (As := [.int 7, .int 1]) (rest := []) S mi_X7_setNumber qw310 (c_X7_setNumber l D A w8 α (k) (f_X7_setNumber (f_X7_setNumber (f_X7_setNumber (f_X7_setNumber (f_X7_setNumber (f_X7_setNumber (f_X7_setNumber nums 0 90) (1 + 0) 50) (1 + 1) 50) (1 + 2) 50) (1 + 3) 50) 5 1) 6 1) bNames pNames fBoats ((f_X7_clear).1) ((f_X7_clear).2) 7 1 hB0) hK hP hD hE hS (hB0 0 _ rfl) rfl rfl rfl hl.1 (Nat.le_of_ble_eq_true rfl) rfl rfl ⟨(Nat.le_of_ble_eq_true rfl), (Nat.le_of_ble_eq_true rfl)⟩ ⟨(Nat.le_of_ble_eq_true rfl), (Nat.le_of_ble_eq_true rfl)⟩ dX7_makeFirstVillage_50) hS rfl (fun w9 H locs hQ hP hD hS => ?_)
  have hF := hF.trans hQ.2
  have hB0 : Blk w9 k (cSetup D α k (f_X7_setNumber (f_X7_setNumber (f_X7_setNumber (f_X7_setNumber (f_X7_setNumber (f_X7_setNumber (f_X7_setNumber (f_X7_setNumber nums 0 90) (1 + 0) 50) (1 + 1) 50) (1 + 2) 50) (1 + 3) 50) 5 1) 6 1) 7 1) bNames pNames fBoats ((f_X7_clear).1) ((f_X7_clear).2)) := hQ.1
  refine lv_aload_n S.1 S.2.1 dX7_makeFirstVillage_53 rfl (lv_at hl 1 rfl) ?_
  refine lv_bipush (v := 8) S.1 S.2.1 dX7_makeFirstVillage_54 (by decide) ?_
  refine lv_iconst (v := 3) S.1 S.2.1 dX7_makeFirstVillage_56 (by decide) ?_
  refine g_aft0 (st1 := []) (g_V (As := [.int 8, .int 3]) (rest := []) S mi_X7_setNumber qw310 (c_X7_setNumber l D A w9 α (k) (f_X7_setNumber (f_X7_setNumber (f_X7_setNumber (f_X7_setNumber (f_X7_setNumber (f_X7_setNumber (f_X7_setNumber (f_X7_setNumber nums 0 90) (1 + 0) 50) (1 + 1) 50) (1 + 2) 50) (1 + 3) 50) 5 1) 6 1) 7 1) bNames pNames fBoats ((f_X7_clear).1) ((f_X7_clear).2) 8 3 hB0) hK hP hD hE hS (hB0 0 _ rfl) rfl rfl rfl hl.1 (Nat.le_of_ble_eq_true rfl) rfl rfl ⟨(Nat.le_of_ble_eq_true rfl), (Nat.le_of_ble_eq_true rfl)⟩ ⟨(Nat.le_of_ble_eq_true rfl), (Nat.le_of_ble_eq_true rfl)⟩ dX7_makeFirstVillage_57) hS rfl (fun w10 H locs hQ hP hD hS => ?_)
  have hF := hF.trans hQ.2
  have hB0 : Blk w10 k (cSetup D α k (f_X7_setNumber (f_X7_setNumber (f_X7_setNumber (f_X7_setNumber (f_X7_setNumber (f_X7_setNumber (f_X7_setNumber (f_X7_setNumber (f_X7_setNumber nums 0 90) (1 + 0) 50) (1 + 1) 50) (1 + 2) 50) (1 + 3) 50) 5 1) 6 1) 7 1) 8 3) bNames pNames fBoats ((f_X7_clear).1) ((f_X7_clear).2)) := hQ.1
  refine lv_aload_n S.1 S.2.1 dX7_makeFirstVillage_60 rfl (lv_at hl 1 rfl) ?_
  refine lv_bipush (v := 9) S.1 S.2.1 dX7_makeFirstVillage_61 (by decide) ?_
  refine lv_iconst (v := 1) S.1 S.2.1 dX7_makeFirstVillage_63 (by decide) ?_
  refine g_aft0 (st1 := []) (g_V (As := [.int 9, .int 1]) (rest := []) S mi_X7_setNumber qw310 (c_X7_setNumber l D A w10 α (k) (f_X7_setNumber (f_X7_setNumber (f_X7_setNumber (f_X7_setNumber (f_X7_setNumber (f_X7_setNumber (f_X7_setNumber (f_X7_setNumber (f_X7_setNumber nums 0 90) (1 + 0) 50) (1 + 1) 50) (1 + 2) 50) (1 + 3) 50) 5 1) 6 1) 7 1) 8 3) bNames pNames fBoats ((f_X7_clear).1) ((f_X7_clear).2) 9 1 hB0) hK hP hD hE hS (hB0 0 _ rfl) rfl rfl rfl hl.1 (Nat.le_of_ble_eq_true rfl) rfl rfl ⟨(Nat.le_of_ble_eq_true rfl), (Nat.le_of_ble_eq_true rfl)⟩ ⟨(Nat.le_of_ble_eq_true rfl), (Nat.le_of_ble_eq_true rfl)⟩ dX7_makeFirstVillage_64) hS rfl (fun w11 H locs hQ hP hD hS => ?_)
  have hF := hF.trans hQ.2
  have hB0 : Blk w11 k (cSetup D α k (f_X7_setNumber (f_X7_setNumber (f_X7_setNumber (f_X7_setNumber (f_X7_setNumber (f_X7_setNumber (f_X7_setNumber (f_X7_setNumber (f_X7_setNumber (f_X7_setNumber nums 0 90) (1 + 0) 50) (1 + 1) 50) (1 + 2) 50) (1 + 3) 50) 5 1) 6 1) 7 1) 8 3) 9 1) bNames pNames fBoats ((f_X7_clear).1) ((f_X7_clear).2)) := hQ.1
  refine lv_aload_n S.1 S.2.1 dX7_makeFirstVillage_67 rfl (lv_at hl 1 rfl) ?_
  refine lv_ldc (v := 33554432) S.1 S.2.1 S.2.2.2.1 (S.2.2.2.2 _ qw317) dX7_makeFirstVillage_68 ?_
  refine lv_bipush (v := (-2)) S.1 S.2.1 dX7_makeFirstVillage_70 (by decide) ?_
  refine g_aft0 (st1 := []) (g_V (As := [.int 33554432, .int (-2)]) (rest := []) S mi_X7_addPerson qw318 (c_X7_addPerson l D A w11 α (k) (f_X7_setNumber (f_X7_setNumber (f_X7_setNumber (f_X7_setNumber (f_X7_setNumber (f_X7_setNumber (f_X7_setNumber (f_X7_setNumber (f_X7_setNumber (f_X7_setNumber nums 0 90) (1 + 0) 50) (1 + 1) 50) (1 + 2) 50) (1 + 3) 50) 5 1) 6 1) 7 1) 8 3) 9 1) bNames pNames fBoats ((f_X7_clear).1) ((f_X7_clear).2) 33554432 (-2) hB0) hK hP hD hE hS (hB0 0 _ rfl) rfl rfl rfl hl.1 (Nat.le_of_ble_eq_true rfl) rfl rfl ⟨(Nat.le_of_ble_eq_true rfl), (Nat.le_of_ble_eq_true rfl)⟩ ⟨(Nat.le_of_ble_eq_true rfl), (Nat.le_of_ble_eq_true rfl)⟩ dX7_makeFirstVillage_72) hS rfl (fun w12 H locs hQ hP hD hS => ?_)
  have hF := hF.trans hQ.2
  have hB0 : Blk w12 k (cSetup D α k (f_X7_setNumber (f_X7_setNumber (f_X7_setNumber (f_X7_setNumber (f_X7_setNumber (f_X7_setNumber (f_X7_setNumber (f_X7_setNumber (f_X7_setNumber (f_X7_setNumber nums 0 90) (1 + 0) 50) (1 + 1) 50) (1 + 2) 50) (1 + 3) 50) 5 1) 6 1) 7 1) 8 3) 9 1) bNames ((f_X7_addPerson pNames fBoats ((f_X7_clear).2) 33554432 (-2)).2.2) ((f_X7_addPerson pNames fBoats ((f_X7_clear).2) 33554432 (-2)).1) ((f_X7_clear).1) ((f_X7_addPerson pNames fBoats ((f_X7_clear).2) 33554432 (-2)).2.1)) := hQ.1
  refine lv_aload_n S.1 S.2.1 dX7_makeFirstVillage_75 rfl (lv_at hl 1 rfl) ?_
  refine lv_ldc (v := 67108864) S.1 S.2.1 S.2.2.2.1 (S.2.2.2.2 _ qw322) dX7_makeFirstVillage_76 ?_
  refine lv_bipush (v := (-2)) S.1 S.2.1 dX7_makeFirstVillage_78 (by decide) ?_
  refine g_aft0 (st1 := []) (g_V (As := [.int 67108864, .int (-2)]) (rest := []) S mi_X7_addPerson qw318 (c_X7_addPerson l D A w12 α (k) (f_X7_setNumber (f_X7_setNumber (f_X7_setNumber (f_X7_setNumber (f_X7_setNumber (f_X7_setNumber (f_X7_setNumber (f_X7_setNumber (f_X7_setNumber (f_X7_setNumber nums 0 90) (1 + 0) 50) (1 + 1) 50) (1 + 2) 50) (1 + 3) 50) 5 1) 6 1) 7 1) 8 3) 9 1) bNames ((f_X7_addPerson pNames fBoats ((f_X7_clear).2) 33554432 (-2)).2.2) ((f_X7_addPerson pNames fBoats ((f_X7_clear).2) 33554432 (-2)).1) ((f_X7_clear).1) ((f_X7_addPerson pNames fBoats ((f_X7_clear).2) 33554432 (-2)).2.1) 67108864 (-2) hB0) hK hP hD hE hS (hB0 0 _ rfl) rfl rfl rfl hl.1 (Nat.le_of_ble_eq_true rfl) rfl rfl ⟨(Nat.le_of_ble_eq_true rfl), (Nat.le_of_ble_eq_true rfl)⟩ ⟨(Nat.le_of_ble_eq_true rfl), (Nat.le_of_ble_eq_true rfl)⟩ dX7_makeFirstVillage_80) hS rfl (fun w13 H locs hQ hP hD hS => ?_)
  have hF := hF.trans hQ.2
  have hB0 : Blk w13 k (cSetup D α k (f_X7_setNumber (f_X7_setNumber (f_X7_setNumber (f_X7_setNumber (f_X7_setNumber (f_X7_setNumber (f_X7_setNumber (f_X7_setNumber (f_X7_setNumber (f_X7_setNumber nums 0 90) (1 + 0) 50) (1 + 1) 50) (1 + 2) 50) (1 + 3) 50) 5 1) 6 1) 7 1) 8 3) 9 1) bNames ((f_X7_addPerson ((f_X7_addPerson pNames fBoats ((f_X7_clear).2) 33554432 (-2)).2.2) ((f_X7_addPerson pNames fBoats ((f_X7_clear).2) 33554432 (-2)).1) ((f_X7_addPerson pNames fBoats ((f_X7_clear).2) 33554432 (-2)).2.1) 67108864 (-2)).2.2) ((f_X7_addPerson ((f_X7_addPerson pNames fBoats ((f_X7_clear).2) 33554432 (-2)).2.2) ((f_X7_addPerson pNames fBoats ((f_X7_clear).2) 33554432 (-2)).1) ((f_X7_addPerson pNames fBoats ((f_X7_clear).2) 33554432 (-2)).2.1) 67108864 (-2)).1) ((f_X7_clear).1) ((f_X7_addPerson ((f_X7_addPerson pNames fBoats ((f_X7_clear).2) 33554432 (-2)).2.2) ((f_X7_addPerson pNames fBoats ((f_X7_clear).2) 33554432 (-2)).1) ((f_X7_addPerson pNames fBoats ((f_X7_clear).2) 33554432 (-2)).2.1) 67108864 (-2)).2.1)) := hQ.1
  have hf : (f_X7_makeFirstVillage nums pNames fBoats) = ((f_X7_addPerson ((f_X7_addPerson pNames fBoats ((f_X7_clear).2) 33554432 (-2)).2.2) ((f_X7_addPerson pNames fBoats ((f_X7_clear).2) 33554432 (-2)).1) ((f_X7_addPerson pNames fBoats ((f_X7_clear).2) 33554432 (-2)).2.1) 67108864 (-2)).1, (f_X7_clear).1, (f_X7_addPerson ((f_X7_addPerson pNames fBoats ((f_X7_clear).2) 33554432 (-2)).2.2) ((f_X7_addPerson pNames fBoats ((f_X7_clear).2) 33554432 (-2)).1) ((f_X7_addPerson pNames fBoats ((f_X7_clear).2) 33554432 (-2)).2.1) 67108864 (-2)).2.1, (f_X7_setNumber (f_X7_setNumber (f_X7_setNumber (f_X7_setNumber (f_X7_setNumber (f_X7_setNumber (f_X7_setNumber (f_X7_setNumber (f_X7_setNumber (f_X7_setNumber nums 0 90) (1 + 0) 50) (1 + 1) 50) (1 + 2) 50) (1 + 3) 50) 5 1) 6 1) 7 1) 8 3) 9 1), (f_X7_addPerson ((f_X7_addPerson pNames fBoats ((f_X7_clear).2) 33554432 (-2)).2.2) ((f_X7_addPerson pNames fBoats ((f_X7_clear).2) 33554432 (-2)).1) ((f_X7_addPerson pNames fBoats ((f_X7_clear).2) 33554432 (-2)).2.1) 67108864 (-2)).2.2) := rfl
  exact g_vret S hr hlk hP hD hS (rfl) (⟨by rw [hf]; exact hB0, hF⟩) dX7_makeFirstVillage_83
def E_X7_find_2 (af : Nat → Int32) (nm : Int32) (n : Nat) : Option (Int32) := (if (af (nI n).toNatClampNeg) = nm then some (nI n) else none)
def f_X7_find (an : Nat) (af : Nat → Int32) (b : Int32) (nm : Int32) : Int32 := ((fst_ (fun k => (E_X7_find_2 af nm k)) (min b.toNatClampNeg an)).getD (-2))
set_option maxHeartbeats 4000000 in
set_option maxRecDepth 100000 in
theorem c_X7_find (l : Launch) (D : va_G) (A : Nat → Prop) (w : va_W) (α : Nat → Nat) (a : Nat) (an : Nat) (af : Nat → Int32) (b : Int32) (nm : Int32) (hB0 : w[a]? = some (cI D α a an af)) (hy0 : an < 2147483648) : Met l yX7_find (ws_ yX7_find cX7_find 4 (some .int)) ({ frames := 0, cells := 0, slots := 0, locals := 0 }) (gPre D A [.ref (α (a)), .int b, .int nm] w) (gR (some (.int (f_X7_find an af b nm)))) 0 0 A := by
  refine g_met [(0, .ref (α (a))), (1, .int b), (2, .int nm)] (plainFor_of_name (by decide)) (Nat.le_of_ble_eq_true rfl) rfl (fun pg en s mi ar below me co ls S hK hP hD hE hS hr hlk hnm hl => ?_)
  refine lv_iconst (v := 0) S.1 S.2.1 dX7_find_0 (by decide) ?_
  refine lv_istore_n (lv' := [(3, .int 0), (0, .ref (α (a))), (1, .int b), (2, .int nm)]) S.1 S.2.1 dX7_find_1 rfl hl (by decide) rfl (fun ls hl => ?_)
  have lp2 : ∀ (j n : Nat), n + j = (min b.toNatClampNeg an) → fst_ (fun k => (E_X7_find_2 af nm k)) n = none → ∀ (locs : List Loc) (ls : Array Slot), va_S A s.heap s.heap locs → lv_has ls 4 [(3, .int (nI n)), (0, .ref (α (a))), (1, .int b), (2, .int nm)] → W pg l en ({ frames := 0, cells := 0, slots := 0, locals := 0 } : Room) s mi ar below me co s.heap locs 0 0 (MQ below (gR (some (.int (f_X7_find an af b nm)))) ar s 0 0 A) (F0 mi 2 ls []) := by
    intro j
    induction j with
    | zero =>
      intro n hn he locs ls hS hl
      have hn : (min b.toNatClampNeg an) = n := hn.symm
      subst hn
      refine lv_iload_n S.1 S.2.1 dX7_find_2 rfl (lv_at hl 0 rfl) ?_
      refine lv_iload_n S.1 S.2.1 dX7_find_3 rfl (lv_at hl 2 rfl) ?_
      refine lv_icmp_ge (tgt := 28) S.1 S.2.1 dX7_find_4 (by decide) (fun (c1 : b ≤ (nI (min b.toNatClampNeg an))) => ?_) (fun (c1 : ¬ b ≤ (nI (min b.toNatClampNeg an))) => ?_)
      · refine lv_bipush (v := (-2)) S.1 S.2.1 dX7_find_28 (by decide) ?_
        have hf : (f_X7_find an af b nm) = (-2) := gd_n he
        exact g_iretR S hr hlk hS (by rw [hf] <;> rfl) dX7_find_30
      · refine lv_iload_n S.1 S.2.1 dX7_find_7 rfl (lv_at hl 0 rfl) ?_
        refine lv_aload_n S.1 S.2.1 dX7_find_8 rfl (lv_at hl 1 rfl) ?_
        refine g_alen (v := (nI an)) S hK hP hB0 0 rfl rfl dX7_find_9 ?_
        refine lv_icmp_ge (tgt := 28) S.1 S.2.1 dX7_find_10 (by decide) (fun (c2 : (nI an) ≤ (nI (min b.toNatClampNeg an))) => ?_) (fun (c2 : ¬ (nI an) ≤ (nI (min b.toNatClampNeg an))) => absurd c2 (fi_out hy0 (by assumption)))
        refine lv_bipush (v := (-2)) S.1 S.2.1 dX7_find_28 (by decide) ?_
        have hf : (f_X7_find an af b nm) = (-2) := gd_n he
        exact g_iretR S hr hlk hS (by rw [hf] <;> rfl) dX7_find_30
    | succ j ih =>
      intro n hn he locs ls hS hl
      refine lv_iload_n S.1 S.2.1 dX7_find_2 rfl (lv_at hl 0 rfl) ?_
      refine lv_iload_n S.1 S.2.1 dX7_find_3 rfl (lv_at hl 2 rfl) ?_
      refine lv_icmp_ge (tgt := 28) S.1 S.2.1 dX7_find_4 (by decide) (fun (c3 : b ≤ (nI n)) => absurd c3 (fi_in1 hn)) (fun (c3 : ¬ b ≤ (nI n)) => ?_)
      refine lv_iload_n S.1 S.2.1 dX7_find_7 rfl (lv_at hl 0 rfl) ?_
      refine lv_aload_n S.1 S.2.1 dX7_find_8 rfl (lv_at hl 1 rfl) ?_
      refine g_alen (v := (nI an)) S hK hP hB0 0 rfl rfl dX7_find_9 ?_
      refine lv_icmp_ge (tgt := 28) S.1 S.2.1 dX7_find_10 (by decide) (fun (c4 : (nI an) ≤ (nI n)) => absurd c4 (fi_in2 hy0 hn)) (fun (c4 : ¬ (nI an) ≤ (nI n)) => ?_)
      refine lv_aload_n S.1 S.2.1 dX7_find_13 rfl (lv_at hl 1 rfl) ?_
      refine lv_iload_n S.1 S.2.1 dX7_find_14 rfl (lv_at hl 0 rfl) ?_
      refine g_iald S hK hP hB0 (vp_in_nI (by omega) hy0) dX7_find_15 ?_
      refine lv_iload_n S.1 S.2.1 dX7_find_16 rfl (lv_at hl 3 rfl) ?_
      refine lv_icmp_ne (tgt := 22) S.1 S.2.1 dX7_find_17 (by decide) (fun (c5 : ¬ (af (nI n).toNatClampNeg) = nm) => ?_) (fun (c5 : (af (nI n).toNatClampNeg) = nm) => ?_)
      · refine lv_iinc (v := (nI (n + 1))) (lv' := [(3, .int (nI (n + 1))), (0, .ref (α (a))), (1, .int b), (2, .int nm)]) S.1 S.2.1 dX7_find_22 hl (k := 0) rfl ((nI_succ n).symm) (by decide) rfl (fun ls hl => ?_)
        refine lv_goto (tgt := 2) S.1 S.2.1 dX7_find_25 (by decide) ?_
        have hE : (E_X7_find_2 af nm n) = none := if_neg c5
        refine ih (n + 1) (by omega) (fst_n he hE) _ _ hS ?_
        exact lv_sub hl [0, 1, 2, 3] rfl
      · refine lv_iload_n S.1 S.2.1 dX7_find_20 rfl (lv_at hl 0 rfl) ?_
        have hE1 : (E_X7_find_2 af nm n) = some (nI n) := if_pos c5
        have hE2 : fst_ (fun k => (E_X7_find_2 af nm k)) (min b.toNatClampNeg an) = some (nI n) := fst_s he hE1 (by omega)
        have hf : (f_X7_find an af b nm) = (nI n) := gd_s hE2
        exact g_iretR S hr hlk hS (by rw [hf] <;> rfl) dX7_find_21
  exact lp2 (min b.toNatClampNeg an) 0 (Nat.zero_add _) rfl _ _ hS (lv_sub hl [0, 1, 2, 3] rfl)
def f_X7_boatNamed (bNames : Nat → Int32) (nB : Int32) (nm : Int32) : Int32 := (f_X7_find 6 bNames nB nm)
set_option maxHeartbeats 4000000 in
set_option maxRecDepth 100000 in
theorem c_X7_boatNamed (l : Launch) (D : va_G) (A : Nat → Prop) (w : va_W) (α : Nat → Nat) (k : Nat) (nums : Nat → Int32) (bNames : Nat → Int32) (pNames : Nat → Int32) (fBoats : Nat → Int32) (nB : Int32) (nP : Int32) (nm : Int32) (hB0 : Blk w k (cSetup D α k nums bNames pNames fBoats nB nP)) : Met l yX7_boatNamed (ws_ yX7_boatNamed cX7_boatNamed 2 (some .int)) ({ frames := 1, cells := 0, slots := 0, locals := 23 }) (gPre D A [.ref (α (k)), .int nm] w) (gR (some (.int (f_X7_boatNamed bNames nB nm)))) 0 0 A := by
  refine g_met [(0, .ref (α (k))), (1, .int nm)] (plainFor_of_name (by decide)) (Nat.le_of_ble_eq_true rfl) rfl (fun pg en s mi ar below me co ls S hK hP hD hE hS hr hlk hnm hl => ?_)
  refine lv_aload_n S.1 S.2.1 dX7_boatNamed_0 rfl (lv_at hl 0 rfl) ?_
  refine g_get (v := .ref (α (k + 2))) S hK hP (hB0 0 _ rfl) rfl inX7 1 (by decide) qw62 rfl dX7_boatNamed_1 ?_
  refine lv_aload_n S.1 S.2.1 dX7_boatNamed_4 rfl (lv_at hl 0 rfl) ?_
  refine g_get (v := .int nB) S hK hP (hB0 0 _ rfl) rfl inX7 4 (by decide) qw65 rfl dX7_boatNamed_5 ?_
  refine lv_iload_n S.1 S.2.1 dX7_boatNamed_8 rfl (lv_at hl 1 rfl) ?_
  refine g_aftR0 (st1 := [.int (f_X7_find 6 bNames nB nm)]) (g_St (As := [.ref (α (k + 2)), .int nB, .int nm]) (rest := []) S ms_X7_find qw692 (c_X7_find l D A w α (k + 2) 6 bNames nB nm (hB0 2 _ rfl) (by first | assumption | exact vin_d (by decide) | exact vp_in_nI (by omega) (by decide) | decide | omega)) hK hP hD hE hS rfl rfl hl.1 (Nat.le_of_ble_eq_true rfl) rfl rfl ⟨(Nat.le_of_ble_eq_true rfl), (Nat.le_of_ble_eq_true rfl)⟩ ⟨(Nat.le_of_ble_eq_true rfl), (Nat.le_of_ble_eq_true rfl)⟩ dX7_boatNamed_9) hS rfl (fun locs hS => ?_)
  have hf : (f_X7_boatNamed bNames nB nm) = (f_X7_find 6 bNames nB nm) := rfl
  exact g_iretR S hr hlk hS (by rw [hf] <;> rfl) dX7_boatNamed_12
def f_X7_personNamed (pNames : Nat → Int32) (nP : Int32) (nm : Int32) : Int32 := (f_X7_find 20 pNames nP nm)
set_option maxHeartbeats 4000000 in
set_option maxRecDepth 100000 in
theorem c_X7_personNamed (l : Launch) (D : va_G) (A : Nat → Prop) (w : va_W) (α : Nat → Nat) (k : Nat) (nums : Nat → Int32) (bNames : Nat → Int32) (pNames : Nat → Int32) (fBoats : Nat → Int32) (nB : Int32) (nP : Int32) (nm : Int32) (hB0 : Blk w k (cSetup D α k nums bNames pNames fBoats nB nP)) : Met l yX7_personNamed (ws_ yX7_personNamed cX7_personNamed 2 (some .int)) ({ frames := 1, cells := 0, slots := 0, locals := 23 }) (gPre D A [.ref (α (k)), .int nm] w) (gR (some (.int (f_X7_personNamed pNames nP nm)))) 0 0 A := by
  refine g_met [(0, .ref (α (k))), (1, .int nm)] (plainFor_of_name (by decide)) (Nat.le_of_ble_eq_true rfl) rfl (fun pg en s mi ar below me co ls S hK hP hD hE hS hr hlk hnm hl => ?_)
  refine lv_aload_n S.1 S.2.1 dX7_personNamed_0 rfl (lv_at hl 0 rfl) ?_
  refine g_get (v := .ref (α (k + 3))) S hK hP (hB0 0 _ rfl) rfl inX7 2 (by decide) qw63 rfl dX7_personNamed_1 ?_
  refine lv_aload_n S.1 S.2.1 dX7_personNamed_4 rfl (lv_at hl 0 rfl) ?_
  refine g_get (v := .int nP) S hK hP (hB0 0 _ rfl) rfl inX7 5 (by decide) qw66 rfl dX7_personNamed_5 ?_
  refine lv_iload_n S.1 S.2.1 dX7_personNamed_8 rfl (lv_at hl 1 rfl) ?_
  refine g_aftR0 (st1 := [.int (f_X7_find 20 pNames nP nm)]) (g_St (As := [.ref (α (k + 3)), .int nP, .int nm]) (rest := []) S ms_X7_find qw692 (c_X7_find l D A w α (k + 3) 20 pNames nP nm (hB0 3 _ rfl) (by first | assumption | exact vin_d (by decide) | exact vp_in_nI (by omega) (by decide) | decide | omega)) hK hP hD hE hS rfl rfl hl.1 (Nat.le_of_ble_eq_true rfl) rfl rfl ⟨(Nat.le_of_ble_eq_true rfl), (Nat.le_of_ble_eq_true rfl)⟩ ⟨(Nat.le_of_ble_eq_true rfl), (Nat.le_of_ble_eq_true rfl)⟩ dX7_personNamed_9) hS rfl (fun locs hS => ?_)
  have hf : (f_X7_personNamed pNames nP nm) = (f_X7_find 20 pNames nP nm) := rfl
  exact g_iretR S hr hlk hS (by rw [hf] <;> rfl) dX7_personNamed_12
def L_X7_isName_18 (x : Int32) : Nat → Int32 := iter_ (fun n sn => (if 26 < ((x >>> ((sh5 (n)) &&& 31)) &&& 31) then sn else (if ((x >>> ((sh5 (n)) &&& 31)) &&& 31) = 0 then (if ((x >>> ((sh5 (n)) &&& 31)) &&& 31) = 0 then 1 else sn) else (if sn = 0 then (if ((x >>> ((sh5 (n)) &&& 31)) &&& 31) = 0 then 1 else sn) else sn)))) 0
def E_X7_isName_18 (x : Int32) (n : Nat) : Option (Bool) := (if 26 < ((x >>> ((sh5 (n)) &&& 31)) &&& 31) then some false else (if ((x >>> ((sh5 (n)) &&& 31)) &&& 31) = 0 then (if ((x >>> ((sh5 (n)) &&& 31)) &&& 31) = 0 then none else none) else (if (L_X7_isName_18 x n) = 0 then (if ((x >>> ((sh5 (n)) &&& 31)) &&& 31) = 0 then none else none) else some false)))
def f_X7_isName (x : Int32) : Bool := (if x ≤ 0 then false else (if (x >>> ((30 : Int32) &&& 31)) = 0 then ((fst_ (fun k => (E_X7_isName_18 x k)) 6).getD true) else false))
