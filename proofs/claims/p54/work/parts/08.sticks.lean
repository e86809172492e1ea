def f_X9_begin (plc : Nat → Int32) (car : Nat → Int32) (bnd : Nat → Int32) (bsk : Nat → Int32) (dyL : Nat → Int32) (rsn : Nat → Int32) : (Nat → Int32) × (Nat → Int32) × (Nat → Int32) × (Nat → Int32) × (Nat → Int32) × (Nat → Int32) := ((f_X11_fillRow 20 bnd (-2)), (f_X11_fillRow 20 bsk (-2)), (f_X11_fillRow 20 car (-2)), (f_X11_fillRow 20 dyL (-2)), (f_X11_fillRow 20 plc 0), (f_X11_fillRow 20 rsn 0))
set_option maxHeartbeats 4000000 in
set_option maxRecDepth 100000 in
theorem c_X9_begin (l : Launch) (D : va_G) (A : Nat → Prop) (w : va_W) (α : Nat → Nat) (k : Nat) (plc : Nat → Int32) (car : Nat → Int32) (bnd : Nat → Int32) (bsk : Nat → Int32) (dyL : Nat → Int32) (rsn : Nat → Int32) (hB0 : Blk w k (cSticks D α k plc car bnd bsk dyL rsn)) : Met l yX9_begin (ws_ yX9_begin cX9_begin 1 none) ({ frames := 1, cells := 0, slots := 0, locals := 22 }) (gPre D A [.ref (α (k))] w) (gQ D A none (fun w1 => Blk w1 k (cSticks D α k ((f_X9_begin plc car bnd bsk dyL rsn).2.2.2.2.1) ((f_X9_begin plc car bnd bsk dyL rsn).2.2.1) ((f_X9_begin plc car bnd bsk dyL rsn).1) ((f_X9_begin plc car bnd bsk dyL rsn).2.1) ((f_X9_begin plc car bnd bsk dyL rsn).2.2.2.1) ((f_X9_begin plc car bnd bsk dyL rsn).2.2.2.2.2)) ∧ Same w w1 k 7)) 0 0 A := by
  refine g_met [(0, .ref (α (k)))] (plainFor_of_name (by decide)) (Nat.le_of_ble_eq_true rfl) rfl (fun pg en s mi ar below me co ls S hK hP hD hE hS hr hlk hnm hl => ?_)
  have hF : Same w w k 7 := Same.rf
  refine lv_aload_n S.1 S.2.1 dX9_begin_0 rfl (lv_at hl 0 rfl) ?_
  refine g_get (v := .ref (α (k + 1))) S hK hP (hB0 0 _ rfl) rfl inX9 0 (by decide) qw144 rfl dX9_begin_1 ?_
  refine lv_iconst (v := 0) S.1 S.2.1 dX9_begin_4 (by decide) ?_
  refine g_aft0 (st1 := []) (g_SN (As := [.ref (α (k + 1)), .int 0]) (rest := []) S ms_X11_fillRow qn_RX9_30 (c_X11_fillRow l D A w α (k + 1) 20 plc 0 (hB0 1 _ rfl) (by first | assumption | exact vin_d (by decide) | exact vp_in_nI (by omega) (by decide) | decide | omega)) hK hP hD hE hS rfl rfl hl.1 (Nat.le_of_ble_eq_true rfl) rfl rfl ⟨(Nat.le_of_ble_eq_true rfl), (Nat.le_of_ble_eq_true rfl)⟩ ⟨(Nat.le_of_ble_eq_true rfl), (Nat.le_of_ble_eq_true rfl)⟩ dX9_begin_5) hS rfl (fun w1 H locs hQ hP hD hS => ?_)
  have hw := hQ
  have hF := Same.set hF 1 hw (by decide)
  have hB0 : Blk w1 k (cSticks D α k (f_X11_fillRow 20 plc 0) car bnd bsk dyL rsn) := hB0.set 1 hw (Nat.le_of_ble_eq_true rfl) rfl
  refine lv_aload_n S.1 S.2.1 dX9_begin_8 rfl (lv_at hl 0 rfl) ?_
  refine g_get (v := .ref (α (k + 2))) S hK hP (hB0 0 _ rfl) rfl inX9 1 (by decide) qw145 rfl dX9_begin_9 ?_
  refine lv_bipush (v := (-2)) S.1 S.2.1 dX9_begin_12 (by decide) ?_
  refine g_aft0 (st1 := []) (g_SN (As := [.ref (α (k + 2)), .int (-2)]) (rest := []) S ms_X11_fillRow qn_RX9_30 (c_X11_fillRow l D A w1 α (k + 2) 20 car (-2) (hB0 2 _ rfl) (by first | assumption | exact vin_d (by decide) | exact vp_in_nI (by omega) (by decide) | decide | omega)) hK hP hD hE hS rfl rfl hl.1 (Nat.le_of_ble_eq_true rfl) rfl rfl ⟨(Nat.le_of_ble_eq_true rfl), (Nat.le_of_ble_eq_true rfl)⟩ ⟨(Nat.le_of_ble_eq_true rfl), (Nat.le_of_ble_eq_true rfl)⟩ dX9_begin_14) hS rfl (fun w2 H locs hQ hP hD hS => ?_)
  have hw := hQ
  have hF := Same.set hF 2 hw (by decide)
  have hB0 : Blk w2 k (cSticks D α k (f_X11_fillRow 20 plc 0) (f_X11_fillRow 20 car (-2)) bnd bsk dyL rsn) := hB0.set 2 hw (Nat.le_of_ble_eq_true rfl) rfl
  refine lv_aload_n S.1 S.2.1 dX9_begin_17 rfl (lv_at hl 0 rfl) ?_
  refine g_get (v := .ref (α (k + 3))) S hK hP (hB0 0 _ rfl) rfl inX9 2 (by decide) qw146 rfl dX9_begin_18 ?_
  refine lv_bipush (v := (-2)) S.1 S.2.1 dX9_begin_21 (by decide) ?_
  refine g_aft0 (st1 := []) (g_SN (As := [.ref (α (k + 3)), .int (-2)]) (rest := []) S ms_X11_fillRow qn_RX9_30 (c_X11_fillRow l D A w2 α (k + 3) 20 bnd (-2) (hB0 3 _ rfl) (by first | assumption | exact vin_d (by decide) | exact vp_in_nI (by omega) (by decide) | decide | omega)) hK hP hD hE hS rfl rfl hl.1 (Nat.le_of_ble_eq_true rfl) rfl rfl ⟨(Nat.le_of_ble_eq_true rfl), (Nat.le_of_ble_eq_true rfl)⟩ ⟨(Nat.le_of_ble_eq_true rfl), (Nat.le_of_ble_eq_true rfl)⟩ dX9_begin_23) hS rfl (fun w3 H locs hQ hP hD hS => ?_)
  have hw := hQ
  have hF := Same.set hF 3 hw (by decide)
  have hB0 : Blk w3 k (cSticks D α k (f_X11_fillRow 20 plc 0) (f_X11_fillRow 20 car (-2)) (f_X11_fillRow 20 bnd (-2)) bsk dyL rsn) := hB0.set 3 hw (Nat.le_of_ble_eq_true rfl) rfl
  refine lv_aload_n S.1 S.2.1 dX9_begin_26 rfl (lv_at hl 0 rfl) ?_
  refine g_get (v := .ref (α (k + 4))) S hK hP (hB0 0 _ rfl) rfl inX9 3 (by decide) qw147 rfl dX9_begin_27 ?_
  refine lv_bipush (v := (-2)) S.1 S.2.1 dX9_begin_30 (by decide) ?_
  refine g_aft0 (st1 := []) (g_SN (As := [.ref (α (k + 4)), .int (-2)]) (rest := []) S ms_X11_fillRow qn_RX9_30 (c_X11_fillRow l D A w3 α (k + 4) 20 bsk (-2) (hB0 4 _ rfl) (by first | assumption | exact vin_d (by decide) | exact vp_in_nI (by omega) (by decide) | decide | omega)) hK hP hD hE hS rfl rfl hl.1 (Nat.le_of_ble_eq_true rfl) rfl rfl ⟨(Nat.le_of_ble_eq_true rfl), (Nat.le_of_ble_eq_true rfl)⟩ ⟨(Nat.le_of_ble_eq_true rfl), (Nat.le_of_ble_eq_true rfl)⟩ dX9_begin_32) hS rfl (fun w4 H locs hQ hP hD hS => ?_)
  have hw := hQ
  have hF := Same.set hF 4 hw (by decide)
  have hB0 : Blk w4 k (cSticks D α k (f_X11_fillRow 20 plc 0) (f_X11_fillRow 20 car (-2)) (f_X11_fillRow 20 bnd (-2)) (f_X11_fillRow 20 bsk (-2)) dyL rsn) := hB0.set 4 hw (Nat.le_of_ble_eq_true rfl) rfl
  refine lv_aload_n S.1 S.2.1 dX9_begin_35 rfl (lv_at hl 0 rfl) ?_
  refine g_get (v := .ref (α (k + 5))) S hK hP (hB0 0 _ rfl) rfl inX9 4 (by decide) qw148 rfl dX9_begin_36 ?_
  refine lv_bipush (v := (-2)) S.1 S.2.1 dX9_begin_39 (by decide) ?_
  refine g_aft0 (st1 := []) (g_SN (As := [.ref (α (k + 5)), .int (-2)]) (rest := []) S ms_X11_fillRow qn_RX9_30 (c_X11_fillRow l D A w4 α (k + 5) 20 dyL (-2) (hB0 5 _ rfl) (by first | assumption | exact vin_d (by decide) | exact vp_in_nI (by omega) (by decide) | decide | omega)) hK hP hD hE hS rfl rfl hl.1 (Nat.le_of_ble_eq_true rfl) rfl rfl ⟨(Nat.le_of_ble_eq_true rfl), (Nat.le_of_ble_eq_true rfl)⟩ ⟨(Nat.le_of_ble_eq_true rfl), (Nat.le_of_ble_eq_true rfl)⟩ dX9_begin_41) hS rfl (fun w5 H locs hQ hP hD hS => ?_)
  have hw := hQ
  have hF := Same.set hF 5 hw (by decide)
  have hB0 : Blk w5 k (cSticks D α k (f_X11_fillRow 20 plc 0) (f_X11_fillRow 20 car (-2)) (f_X11_fillRow 20 bnd (-2)) (f_X11_fillRow 20 bsk (-2)) (f_X11_fillRow 20 dyL (-2)) rsn) := hB0.set 5 hw (Nat.le_of_ble_eq_true rfl) rfl
  refine lv_aload_n S.1 S.2.1 dX9_begin_44 rfl (lv_at hl 0 rfl) ?_
  refine g_get (v := .ref (α (k + 6))) S hK hP (hB0 0 _ rfl) rfl inX9 5 (by decide) qw149 rfl dX9_begin_45 ?_
  refine lv_iconst (v := 0) S.1 S.2.1 dX9_begin_48 (by decide) ?_
  refine g_aft0 (st1 := []) (g_SN (As := [.ref (α (k + 6)), .int 0]) (rest := []) S ms_X11_fillRow qn_RX9_30 (c_X11_fillRow l D A w5 α (k + 6) 20 rsn 0 (hB0 6 _ rfl) (by first | assumption | exact vin_d (by decide) | exact vp_in_nI (by omega) (by decide) | decide | omega)) hK hP hD hE hS rfl rfl hl.1 (Nat.le_of_ble_eq_true rfl) rfl rfl ⟨(Nat.le_of_ble_eq_true rfl), (Nat.le_of_ble_eq_true rfl)⟩ ⟨(Nat.le_of_ble_eq_true rfl), (Nat.le_of_ble_eq_true rfl)⟩ dX9_begin_49) hS rfl (fun w6 H locs hQ hP hD hS => ?_)
  have hw := hQ
  have hF := Same.set hF 6 hw (by decide)
  have hB0 : Blk w6 k (cSticks D α k (f_X11_fillRow 20 plc 0) (f_X11_fillRow 20 car (-2)) (f_X11_fillRow 20 bnd (-2)) (f_X11_fillRow 20 bsk (-2)) (f_X11_fillRow 20 dyL (-2)) (f_X11_fillRow 20 rsn 0)) := hB0.set 6 hw (Nat.le_of_ble_eq_true rfl) rfl
  have hf : (f_X9_begin plc car bnd bsk dyL rsn) = ((f_X11_fillRow 20 bnd (-2)), (f_X11_fillRow 20 bsk (-2)), (f_X11_fillRow 20 car (-2)), (f_X11_fillRow 20 dyL (-2)), (f_X11_fillRow 20 plc 0), (f_X11_fillRow 20 rsn 0)) := rfl
  exact g_vret S hr hlk hP hD hS (rfl) (⟨by rw [hf]; exact hB0, hF⟩) dX9_begin_52
def f_X9_copyFrom (plc : Nat → Int32) (car : Nat → Int32) (bnd : Nat → Int32) (bsk : Nat → Int32) (dyL : Nat → Int32) (rsn : Nat → Int32) (plc2 : Nat → Int32) (car2 : Nat → Int32) (bnd2 : Nat → Int32) (bsk2 : Nat → Int32) (dyL2 : Nat → Int32) (rsn2 : Nat → Int32) : (Nat → Int32) × (Nat → Int32) × (Nat → Int32) × (Nat → Int32) × (Nat → Int32) × (Nat → Int32) := ((f_X11_copyRow 20 bnd2 20 bnd), (f_X11_copyRow 20 bsk2 20 bsk), (f_X11_copyRow 20 car2 20 car), (f_X11_copyRow 20 dyL2 20 dyL), (f_X11_copyRow 20 plc2 20 plc), (f_X11_copyRow 20 rsn2 20 rsn))
set_option maxHeartbeats 4000000 in
set_option maxRecDepth 100000 in
theorem c_X9_copyFrom (l : Launch) (D : va_G) (A : Nat → Prop) (w : va_W) (α : Nat → Nat) (k : Nat) (plc : Nat → Int32) (car : Nat → Int32) (bnd : Nat → Int32) (bsk : Nat → Int32) (dyL : Nat → Int32) (rsn : Nat → Int32) (k2 : Nat) (plc2 : Nat → Int32) (car2 : Nat → Int32) (bnd2 : Nat → Int32) (bsk2 : Nat → Int32) (dyL2 : Nat → Int32) (rsn2 : Nat → Int32) (hB0 : Blk w k (cSticks D α k plc car bnd bsk dyL rsn)) (hB1 : Blk w k2 (cSticks D α k2 plc2 car2 bnd2 bsk2 dyL2 rsn2)) (hd1 : k2 + 7 ≤ k ∨ k + 7 ≤ k2) : Met l yX9_copyFrom (ws_ yX9_copyFrom cX9_copyFrom 2 none) ({ frames := 2, cells := 0, slots := 0, locals := 61 }) (gPre D A [.ref (α (k)), .ref (α (k2))] w) (gQ D A none (fun w1 => Blk w1 k (cSticks D α k ((f_X9_copyFrom plc car bnd bsk dyL rsn plc2 car2 bnd2 bsk2 dyL2 rsn2).2.2.2.2.1) ((f_X9_copyFrom plc car bnd bsk dyL rsn plc2 car2 bnd2 bsk2 dyL2 rsn2).2.2.1) ((f_X9_copyFrom plc car bnd bsk dyL rsn plc2 car2 bnd2 bsk2 dyL2 rsn2).1) ((f_X9_copyFrom plc car bnd bsk dyL rsn plc2 car2 bnd2 bsk2 dyL2 rsn2).2.1) ((f_X9_copyFrom plc car bnd bsk dyL rsn plc2 car2 bnd2 bsk2 dyL2 rsn2).2.2.2.1) ((f_X9_copyFrom plc car bnd bsk dyL rsn plc2 car2 bnd2 bsk2 dyL2 rsn2).2.2.2.2.2)) ∧ Same w w1 k 7)) 0 0 A := by
  refine g_met [(0, .ref (α (k))), (1, .ref (α (k2)))] (plainFor_of_name (by decide)) (Nat.le_of_ble_eq_true rfl) rfl (fun pg en s mi ar below me co ls S hK hP hD hE hS hr hlk hnm hl => ?_)
  have hF : Same w w k 7 := Same.rf
  refine lv_aload_n S.1 S.2.1 dX9_copyFrom_0 rfl (lv_at hl 1 rfl) ?_
  refine g_get (v := .ref (α (k2 + 1))) S hK hP (hB1 0 _ rfl) rfl inX9 0 (by decide) qw144 rfl dX9_copyFrom_1 ?_
  refine lv_aload_n S.1 S.2.1 dX9_copyFrom_4 rfl (lv_at hl 0 rfl) ?_
  refine g_get (v := .ref (α (k + 1))) S hK hP (hB0 0 _ rfl) rfl inX9 0 (by decide) qw144 rfl dX9_copyFrom_5 ?_
  refine g_aft0 (st1 := []) (g_SN (As := [.ref (α (k2 + 1)), .ref (α (k + 1))]) (rest := []) S ms_X11_copyRow qn_RX9_34 (c_X11_copyRow l D A w α (k2 + 1) 20 plc2 (k + 1) 20 plc (hB1 1 _ rfl) (hB0 1 _ rfl) (by first | assumption | exact vin_d (by decide) | exact vp_in_nI (by omega) (by decide) | decide | omega) (by first | assumption | exact vin_d (by decide) | exact vp_in_nI (by omega) (by decide) | decide | omega)) hK hP hD hE hS rfl rfl hl.1 (Nat.le_of_ble_eq_true rfl) rfl rfl ⟨(Nat.le_of_ble_eq_true rfl), (Nat.le_of_ble_eq_true rfl)⟩ ⟨(Nat.le_of_ble_eq_true rfl), (Nat.le_of_ble_eq_true rfl)⟩ dX9_copyFrom_8) hS rfl (fun w1 H locs hQ hP hD hS => ?_)
  have hw := hQ
  have hF := Same.set hF 1 hw (by decide)
  have hB0 : Blk w1 k (cSticks D α k (f_X11_copyRow 20 plc2 20 plc) car bnd bsk dyL rsn) := hB0.set 1 hw (Nat.le_of_ble_eq_true rfl) rfl
  refine lv_aload_n S.1 S.2.1 dX9_copyFrom_11 rfl (lv_at hl 1 rfl) ?_
  refine g_get (v := .ref (α (k2 + 2))) S hK hP ((hB1.other hF hd1) 0 _ rfl) rfl inX9 1 (by decide) qw145 rfl dX9_copyFrom_12 ?_
  refine lv_aload_n S.1 S.2.1 dX9_copyFrom_15 rfl (lv_at hl 0 rfl) ?_
  refine g_get (v := .ref (α (k + 2))) S hK hP (hB0 0 _ rfl) rfl inX9 1 (by decide) qw145 rfl dX9_copyFrom_16 ?_
  refine g_aft0 (st1 := []) (g_SN (As := [.ref (α (k2 + 2)), .ref (α (k + 2))]) (rest := []) S ms_X11_copyRow qn_RX9_34 (c_X11_copyRow l D A w1 α (k2 + 2) 20 car2 (k + 2) 20 car ((hB1.other hF hd1) 2 _ rfl) (hB0 2 _ rfl) (by first | assumption | exact vin_d (by decide) | exact vp_in_nI (by omega) (by decide) | decide | omega) (by first | assumption | exact vin_d (by decide) | exact vp_in_nI (by omega) (by decide) | decide | omega)) hK hP hD hE hS rfl rfl hl.1 (Nat.le_of_ble_eq_true rfl) rfl rfl ⟨(Nat.le_of_ble_eq_true rfl), (Nat.le_of_ble_eq_true rfl)⟩ ⟨(Nat.le_of_ble_eq_true rfl), (Nat.le_of_ble_eq_true rfl)⟩ dX9_copyFrom_19) hS rfl (fun w2 H locs hQ hP hD hS => ?_)
  have hw := hQ
  have hF := Same.set hF 2 hw (by decide)
  have hB0 : Blk w2 k (cSticks D α k (f_X11_copyRow 20 plc2 20 plc) (f_X11_copyRow 20 car2 20 car) bnd bsk dyL rsn) := hB0.set 2 hw (Nat.le_of_ble_eq_true rfl) rfl
  refine lv_aload_n S.1 S.2.1 dX9_copyFrom_22 rfl (lv_at hl 1 rfl) ?_
  refine g_get (v := .ref (α (k2 + 3))) S hK hP ((hB1.other hF hd1) 0 _ rfl) rfl inX9 2 (by decide) qw146 rfl dX9_copyFrom_23 ?_
  refine lv_aload_n S.1 S.2.1 dX9_copyFrom_26 rfl (lv_at hl 0 rfl) ?_
  refine g_get (v := .ref (α (k + 3))) S hK hP (hB0 0 _ rfl) rfl inX9 2 (by decide) qw146 rfl dX9_copyFrom_27 ?_
  refine g_aft0 (st1 := []) (g_SN (As := [.ref (α (k2 + 3)), .ref (α (k + 3))]) (rest := []) S ms_X11_copyRow qn_RX9_34 (c_X11_copyRow l D A w2 α (k2 + 3) 20 bnd2 (k + 3) 20 bnd ((hB1.other hF hd1) 3 _ rfl) (hB0 3 _ rfl) (by first | assumption | exact vin_d (by decide) | exact vp_in_nI (by omega) (by decide) | decide | omega) (by first | assumption | exact vin_d (by decide) | exact vp_in_nI (by omega) (by decide) | decide | omega)) hK hP hD hE hS rfl rfl hl.1 (Nat.le_of_ble_eq_true rfl) rfl rfl ⟨(Nat.le_of_ble_eq_true rfl), (Nat.le_of_ble_eq_true rfl)⟩ ⟨(Nat.le_of_ble_eq_true rfl), (Nat.le_of_ble_eq_true rfl)⟩ dX9_copyFrom_30) hS rfl (fun w3 H locs hQ hP hD hS => ?_)
  have hw := hQ
  have hF := Same.set hF 3 hw (by decide)
  have hB0 : Blk w3 k (cSticks D α k (f_X11_copyRow 20 plc2 20 plc) (f_X11_copyRow 20 car2 20 car) (f_X11_copyRow 20 bnd2 20 bnd) bsk dyL rsn) := hB0.set 3 hw (Nat.le_of_ble_eq_true rfl) rfl
  refine lv_aload_n S.1 S.2.1 dX9_copyFrom_33 rfl (lv_at hl 1 rfl) ?_
  refine g_get (v := .ref (α (k2 + 4))) S hK hP ((hB1.other hF hd1) 0 _ rfl) rfl inX9 3 (by decide) qw147 rfl dX9_copyFrom_34 ?_
  refine lv_aload_n S.1 S.2.1 dX9_copyFrom_37 rfl (lv_at hl 0 rfl) ?_
  refine g_get (v := .ref (α (k + 4))) S hK hP (hB0 0 _ rfl) rfl inX9 3 (by decide) qw147 rfl dX9_copyFrom_38 ?_
  refine g_aft0 (st1 := []) (g_SN (As := [.ref (α (k2 + 4)), .ref (α (k + 4))]) (rest := []) S ms_X11_copyRow qn_RX9_34 (c_X11_copyRow l D A w3 α (k2 + 4) 20 bsk2 (k + 4) 20 bsk ((hB1.other hF hd1) 4 _ rfl) (hB0 4 _ rfl) (by first | assumption | exact vin_d (by decide) | exact vp_in_nI (by omega) (by decide) | decide | omega) (by first | assumption | exact vin_d (by decide) | exact vp_in_nI (by omega) (by decide) | decide | omega)) hK hP hD hE hS rfl rfl hl.1 (Nat.le_of_ble_eq_true rfl) rfl rfl ⟨(Nat.le_of_ble_eq_true rfl), (Nat.le_of_ble_eq_true rfl)⟩ ⟨(Nat.le_of_ble_eq_true rfl), (Nat.le_of_ble_eq_true rfl)⟩ dX9_copyFrom_41) hS rfl (fun w4 H locs hQ hP hD hS => ?_)
  have hw := hQ
  have hF := Same.set hF 4 hw (by decide)
  have hB0 : Blk w4 k (cSticks D α k (f_X11_copyRow 20 plc2 20 plc) (f_X11_copyRow 20 car2 20 car) (f_X11_copyRow 20 bnd2 20 bnd) (f_X11_copyRow 20 bsk2 20 bsk) dyL rsn) := hB0.set 4 hw (Nat.le_of_ble_eq_true rfl) rfl
  refine lv_aload_n S.1 S.2.1 dX9_copyFrom_44 rfl (lv_at hl 1 rfl) ?_
  refine g_get (v := .ref (α (k2 + 5))) S hK hP ((hB1.other hF hd1) 0 _ rfl) rfl inX9 4 (by decide) qw148 rfl dX9_copyFrom_45 ?_
  refine lv_aload_n S.1 S.2.1 dX9_copyFrom_48 rfl (lv_at hl 0 rfl) ?_
  refine g_get (v := .ref (α (k + 5))) S hK hP (hB0 0 _ rfl) rfl inX9 4 (by decide) qw148 rfl dX9_copyFrom_49 ?_
  refine g_aft0 (st1 := []) (g_SN (As := [.ref (α (k2 + 5)), .ref (α (k + 5))]) (rest := []) S ms_X11_copyRow qn_RX9_34 (c_X11_copyRow l D A w4 α (k2 + 5) 20 dyL2 (k + 5) 20 dyL ((hB1.other hF hd1) 5 _ rfl) (hB0 5 _ rfl) (by first | assumption | exact vin_d (by decide) | exact vp_in_nI (by omega) (by decide) | decide | omega) (by first | assumption | exact vin_d (by decide) | exact vp_in_nI (by omega) (by decide) | decide | omega)) hK hP hD hE hS rfl rfl hl.1 (Nat.le_of_ble_eq_true rfl) rfl rfl ⟨(Nat.le_of_ble_eq_true rfl), (Nat.le_of_ble_eq_true rfl)⟩ ⟨(Nat.le_of_ble_eq_true rfl), (Nat.le_of_ble_eq_true rfl)⟩ dX9_copyFrom_52) hS rfl (fun w5 H locs hQ hP hD hS => ?_)
  have hw := hQ
  have hF := Same.set hF 5 hw (by decide)
  have hB0 : Blk w5 k (cSticks D α k (f_X11_copyRow 20 plc2 20 plc) (f_X11_copyRow 20 car2 20 car) (f_X11_copyRow 20 bnd2 20 bnd) (f_X11_copyRow 20 bsk2 20 bsk) (f_X11_copyRow 20 dyL2 20 dyL) rsn) := hB0.set 5 hw (Nat.le_of_ble_eq_true rfl) rfl
  refine lv_aload_n S.1 S.2.1 dX9_copyFrom_55 rfl (lv_at hl 1 rfl) ?_
  refine g_get (v := .ref (α (k2 + 6))) S hK hP ((hB1.other hF hd1) 0 _ rfl) rfl inX9 5 (by decide) qw149 rfl dX9_copyFrom_56 ?_
  refine lv_aload_n S.1 S.2.1 dX9_copyFrom_59 rfl (lv_at hl 0 rfl) ?_
  refine g_get (v := .ref (α (k + 6))) S hK hP (hB0 0 _ rfl) rfl inX9 5 (by decide) qw149 rfl dX9_copyFrom_60 ?_
  refine g_aft0 (st1 := []) (g_SN (As := [.ref (α (k2 + 6)), .ref (α (k + 6))]) (rest := []) S ms_X11_copyRow qn_RX9_34 (c_X11_copyRow l D A w5 α (k2 + 6) 20 rsn2 (k + 6) 20 rsn ((hB1.other hF hd1) 6 _ rfl) (hB0 6 _ rfl) (by first | assumption | exact vin_d (by decide) | exact vp_in_nI (by omega) (by decide) | decide | omega) (by first | assumption | exact vin_d (by decide) | exact vp_in_nI (by omega) (by decide) | decide | omega)) hK hP hD hE hS rfl rfl hl.1 (Nat.le_of_ble_eq_true rfl) rfl rfl ⟨(Nat.le_of_ble_eq_true rfl), (Nat.le_of_ble_eq_true rfl)⟩ ⟨(Nat.le_of_ble_eq_true rfl), (Nat.le_of_ble_eq_true rfl)⟩ dX9_copyFrom_63) hS rfl (fun w6 H locs hQ hP hD hS => ?_)
  have hw := hQ
  have hF := Same.set hF 6 hw (by decide)
  have hB0 : Blk w6 k (cSticks D α k (f_X11_copyRow 20 plc2 20 plc) (f_X11_copyRow 20 car2 20 car) (f_X11_copyRow 20 bnd2 20 bnd) (f_X11_copyRow 20 bsk2 20 bsk) (f_X11_copyRow 20 dyL2 20 dyL) (f_X11_copyRow 20 rsn2 20 rsn)) := hB0.set 6 hw (Nat.le_of_ble_eq_true rfl) rfl
  have hf : (f_X9_copyFrom plc car bnd bsk dyL rsn plc2 car2 bnd2 bsk2 dyL2 rsn2) = ((f_X11_copyRow 20 bnd2 20 bnd), (f_X11_copyRow 20 bsk2 20 bsk), (f_X11_copyRow 20 car2 20 car), (f_X11_copyRow 20 dyL2 20 dyL), (f_X11_copyRow 20 plc2 20 plc), (f_X11_copyRow 20 rsn2 20 rsn)) := rfl
  exact g_vret S hr hlk hP hD hS (rfl) (⟨by rw [hf]; exact hB0, hF⟩) dX9_copyFrom_66
def f_X9_placeOf (plc : Nat → Int32) (o : Int32) : Int32 := (f_X11_cell 20 plc o 0)
set_option maxHeartbeats 4000000 in
set_option maxRecDepth 100000 in
theorem c_X9_placeOf (l : Launch) (D : va_G) (A : Nat → Prop) (w : va_W) (α : Nat → Nat) (k : Nat) (plc : Nat → Int32) (car : Nat → Int32) (bnd : Nat → Int32) (bsk : Nat → Int32) (dyL : Nat → Int32) (rsn : Nat → Int32) (o : Int32) (hB0 : Blk w k (cSticks D α k plc car bnd bsk dyL rsn)) : Met l yX9_placeOf (ws_ yX9_placeOf cX9_placeOf 2 (some .int)) ({ frames := 1, cells := 0, slots := 0, locals := 22 }) (gPre D A [.ref (α (k)), .int o] w) (gR (some (.int (f_X9_placeOf plc o)))) 0 0 A := by
  refine g_met [(0, .ref (α (k))), (1, .int o)] (plainFor_of_name (by decide)) (Nat.le_of_ble_eq_true rfl) rfl (fun pg en s mi ar below me co ls S hK hP hD hE hS hr hlk hnm hl => ?_)
  refine lv_aload_n S.1 S.2.1 dX9_placeOf_0 rfl (lv_at hl 0 rfl) ?_
  refine g_get (v := .ref (α (k + 1))) S hK hP (hB0 0 _ rfl) rfl inX9 0 (by decide) qw144 rfl dX9_placeOf_1 ?_
  refine lv_iload_n S.1 S.2.1 dX9_placeOf_4 rfl (lv_at hl 1 rfl) ?_
  refine lv_iconst (v := 0) S.1 S.2.1 dX9_placeOf_5 (by decide) ?_
  refine g_aftR0 (st1 := [.int (f_X11_cell 20 plc o 0)]) (g_SN (As := [.ref (α (k + 1)), .int o, .int 0]) (rest := []) S ms_X11_cell qn_RX9_38 (c_X11_cell l D A w α (k + 1) 20 plc o 0 (hB0 1 _ rfl) (by first | assumption | exact vin_d (by decide) | exact vp_in_nI (by omega) (by decide) | decide | omega)) hK hP hD hE hS rfl rfl hl.1 (Nat.le_of_ble_eq_true rfl) rfl rfl ⟨(Nat.le_of_ble_eq_true rfl), (Nat.le_of_ble_eq_true rfl)⟩ ⟨(Nat.le_of_ble_eq_true rfl), (Nat.le_of_ble_eq_true rfl)⟩ dX9_placeOf_6) hS rfl (fun locs hS => ?_)
  have hf : (f_X9_placeOf plc o) = (f_X11_cell 20 plc o 0) := rfl
  exact g_iretR S hr hlk hS (by rw [hf] <;> rfl) dX9_placeOf_9
def f_X9_carrierOf (car : Nat → Int32) (o : Int32) : Int32 := (f_X11_cell 20 car o (-2))
set_option maxHeartbeats 4000000 in
set_option maxRecDepth 100000 in
theorem c_X9_carrierOf (l : Launch) (D : va_G) (A : Nat → Prop) (w : va_W) (α : Nat → Nat) (k : Nat) (plc : Nat → Int32) (car : Nat → Int32) (bnd : Nat → Int32) (bsk : Nat → Int32) (dyL : Nat → Int32) (rsn : Nat → Int32) (o : Int32) (hB0 : Blk w k (cSticks D α k plc car bnd bsk dyL rsn)) : Met l yX9_carrierOf (ws_ yX9_carrierOf cX9_carrierOf 2 (some .int)) ({ frames := 1, cells := 0, slots := 0, locals := 22 }) (gPre D A [.ref (α (k)), .int o] w) (gR (some (.int (f_X9_carrierOf car o)))) 0 0 A := by
  refine g_met [(0, .ref (α (k))), (1, .int o)] (plainFor_of_name (by decide)) (Nat.le_of_ble_eq_true rfl) rfl (fun pg en s mi ar below me co ls S hK hP hD hE hS hr hlk hnm hl => ?_)
  refine lv_aload_n S.1 S.2.1 dX9_carrierOf_0 rfl (lv_at hl 0 rfl) ?_
  refine g_get (v := .ref (α (k + 2))) S hK hP (hB0 0 _ rfl) rfl inX9 1 (by decide) qw145 rfl dX9_carrierOf_1 ?_
  refine lv_iload_n S.1 S.2.1 dX9_carrierOf_4 rfl (lv_at hl 1 rfl) ?_
  refine lv_bipush (v := (-2)) S.1 S.2.1 dX9_carrierOf_5 (by decide) ?_
  refine g_aftR0 (st1 := [.int (f_X11_cell 20 car o (-2))]) (g_SN (As := [.ref (α (k + 2)), .int o, .int (-2)]) (rest := []) S ms_X11_cell qn_RX9_38 (c_X11_cell l D A w α (k + 2) 20 car o (-2) (hB0 2 _ rfl) (by first | assumption | exact vin_d (by decide) | exact vp_in_nI (by omega) (by decide) | decide | omega)) hK hP hD hE hS rfl rfl hl.1 (Nat.le_of_ble_eq_true rfl) rfl rfl ⟨(Nat.le_of_ble_eq_true rfl), (Nat.le_of_ble_eq_true rfl)⟩ ⟨(Nat.le_of_ble_eq_true rfl), (Nat.le_of_ble_eq_true rfl)⟩ dX9_carrierOf_7) hS rfl (fun locs hS => ?_)
  have hf : (f_X9_carrierOf car o) = (f_X11_cell 20 car o (-2)) := rfl
  exact g_iretR S hr hlk hS (by rw [hf] <;> rfl) dX9_carrierOf_10
def f_X9_boundTo (bnd : Nat → Int32) (o : Int32) : Int32 := (f_X11_cell 20 bnd o (-2))
set_option maxHeartbeats 4000000 in
set_option maxRecDepth 100000 in
theorem c_X9_boundTo (l : Launch) (D : va_G) (A : Nat → Prop) (w : va_W) (α : Nat → Nat) (k : Nat) (plc : Nat → Int32) (car : Nat → Int32) (bnd : Nat → Int32) (bsk : Nat → Int32) (dyL : Nat → Int32) (rsn : Nat → Int32) (o : Int32) (hB0 : Blk w k (cSticks D α k plc car bnd bsk dyL rsn)) : Met l yX9_boundTo (ws_ yX9_boundTo cX9_boundTo 2 (some .int)) ({ frames := 1, cells := 0, slots := 0, locals := 22 }) (gPre D A [.ref (α (k)), .int o] w) (gR (some (.int (f_X9_boundTo bnd o)))) 0 0 A := by
  refine g_met [(0, .ref (α (k))), (1, .int o)] (plainFor_of_name (by decide)) (Nat.le_of_ble_eq_true rfl) rfl (fun pg en s mi ar below me co ls S hK hP hD hE hS hr hlk hnm hl => ?_)
  refine lv_aload_n S.1 S.2.1 dX9_boundTo_0 rfl (lv_at hl 0 rfl) ?_
  refine g_get (v := .ref (α (k + 3))) S hK hP (hB0 0 _ rfl) rfl inX9 2 (by decide) qw146 rfl dX9_boundTo_1 ?_
  refine lv_iload_n S.1 S.2.1 dX9_boundTo_4 rfl (lv_at hl 1 rfl) ?_
  refine lv_bipush (v := (-2)) S.1 S.2.1 dX9_boundTo_5 (by decide) ?_
  refine g_aftR0 (st1 := [.int (f_X11_cell 20 bnd o (-2))]) (g_SN (As := [.ref (α (k + 3)), .int o, .int (-2)]) (rest := []) S ms_X11_cell qn_RX9_38 (c_X11_cell l D A w α (k + 3) 20 bnd o (-2) (hB0 3 _ rfl) (by first | assumption | exact vin_d (by decide) | exact vp_in_nI (by omega) (by decide) | decide | omega)) hK hP hD hE hS rfl rfl hl.1 (Nat.le_of_ble_eq_true rfl) rfl rfl ⟨(Nat.le_of_ble_eq_true rfl), (Nat.le_of_ble_eq_true rfl)⟩ ⟨(Nat.le_of_ble_eq_true rfl), (Nat.le_of_ble_eq_true rfl)⟩ dX9_boundTo_7) hS rfl (fun locs hS => ?_)
  have hf : (f_X9_boundTo bnd o) = (f_X11_cell 20 bnd o (-2)) := rfl
  exact g_iretR S hr hlk hS (by rw [hf] <;> rfl) dX9_boundTo_10
def f_X9_basketOf (bsk : Nat → Int32) (o : Int32) : Int32 := (f_X11_cell 20 bsk o (-2))
set_option maxHeartbeats 4000000 in
set_option maxRecDepth 100000 in
theorem c_X9_basketOf (l : Launch) (D : va_G) (A : Nat → Prop) (w : va_W) (α : Nat → Nat) (k : Nat) (plc : Nat → Int32) (car : Nat → Int32) (bnd : Nat → Int32) (bsk : Nat → Int32) (dyL : Nat → Int32) (rsn : Nat → Int32) (o : Int32) (hB0 : Blk w k (cSticks D α k plc car bnd bsk dyL rsn)) : Met l yX9_basketOf (ws_ yX9_basketOf cX9_basketOf 2 (some .int)) ({ frames := 1, cells := 0, slots := 0, locals := 22 }) (gPre D A [.ref (α (k)), .int o] w) (gR (some (.int (f_X9_basketOf bsk o)))) 0 0 A := by
  refine g_met [(0, .ref (α (k))), (1, .int o)] (plainFor_of_name (by decide)) (Nat.le_of_ble_eq_true rfl) rfl (fun pg en s mi ar below me co ls S hK hP hD hE hS hr hlk hnm hl => ?_)
  refine lv_aload_n S.1 S.2.1 dX9_basketOf_0 rfl (lv_at hl 0 rfl) ?_
  refine g_get (v := .ref (α (k + 4))) S hK hP (hB0 0 _ rfl) rfl inX9 3 (by decide) qw147 rfl dX9_basketOf_1 ?_
  refine lv_iload_n S.1 S.2.1 dX9_basketOf_4 rfl (lv_at hl 1 rfl) ?_
  refine lv_bipush (v := (-2)) S.1 S.2.1 dX9_basketOf_5 (by decide) ?_
  refine g_aftR0 (st1 := [.int (f_X11_cell 20 bsk o (-2))]) (g_SN (As := [.ref (α (k + 4)), .int o, .int (-2)]) (rest := []) S ms_X11_cell qn_RX9_38 (c_X11_cell l D A w α (k + 4) 20 bsk o (-2) (hB0 4 _ rfl) (by first | assumption | exact vin_d (by decide) | exact vp_in_nI (by omega) (by decide) | decide | omega)) hK hP hD hE hS rfl rfl hl.1 (Nat.le_of_ble_eq_true rfl) rfl rfl ⟨(Nat.le_of_ble_eq_true rfl), (Nat.le_of_ble_eq_true rfl)⟩ ⟨(Nat.le_of_ble_eq_true rfl), (Nat.le_of_ble_eq_true rfl)⟩ dX9_basketOf_7) hS rfl (fun locs hS => ?_)
  have hf : (f_X9_basketOf bsk o) = (f_X11_cell 20 bsk o (-2)) := rfl
  exact g_iretR S hr hlk hS (by rw [hf] <;> rfl) dX9_basketOf_10
def f_X9_dayOf (dyL : Nat → Int32) (o : Int32) : Int32 := (f_X11_cell 20 dyL o (-2))
set_option maxHeartbeats 4000000 in
set_option maxRecDepth 100000 in
theorem c_X9_dayOf (l : Launch) (D : va_G) (A : Nat → Prop) (w : va_W) (α : Nat → Nat) (k : Nat) (plc : Nat → Int32) (car : Nat → Int32) (bnd : Nat → Int32) (bsk : Nat → Int32) (dyL : Nat → Int32) (rsn : Nat → Int32) (o : Int32) (hB0 : Blk w k (cSticks D α k plc car bnd bsk dyL rsn)) : Met l yX9_dayOf (ws_ yX9_dayOf cX9_dayOf 2 (some .int)) ({ frames := 1, cells := 0, slots := 0, locals := 22 }) (gPre D A [.ref (α (k)), .int o] w) (gR (some (.int (f_X9_dayOf dyL o)))) 0 0 A := by
  refine g_met [(0, .ref (α (k))), (1, .int o)] (plainFor_of_name (by decide)) (Nat.le_of_ble_eq_true rfl) rfl (fun pg en s mi ar below me co ls S hK hP hD hE hS hr hlk hnm hl => ?_)
  refine lv_aload_n S.1 S.2.1 dX9_dayOf_0 rfl (lv_at hl 0 rfl) ?_
  refine g_get (v := .ref (α (k + 5))) S hK hP (hB0 0 _ rfl) rfl inX9 4 (by decide) qw148 rfl dX9_dayOf_1 ?_
  refine lv_iload_n S.1 S.2.1 dX9_dayOf_4 rfl (lv_at hl 1 rfl) ?_
  refine lv_bipush (v := (-2)) S.1 S.2.1 dX9_dayOf_5 (by decide) ?_
  refine g_aftR0 (st1 := [.int (f_X11_cell 20 dyL o (-2))]) (g_SN (As := [.ref (α (k + 5)), .int o, .int (-2)]) (rest := []) S ms_X11_cell qn_RX9_38 (c_X11_cell l D A w α (k + 5) 20 dyL o (-2) (hB0 5 _ rfl) (by first | assumption | exact vin_d (by decide) | exact vp_in_nI (by omega) (by decide) | decide | omega)) hK hP hD hE hS rfl rfl hl.1 (Nat.le_of_ble_eq_true rfl) rfl rfl ⟨(Nat.le_of_ble_eq_true rfl), (Nat.le_of_ble_eq_true rfl)⟩ ⟨(Nat.le_of_ble_eq_true rfl), (Nat.le_of_ble_eq_true rfl)⟩ dX9_dayOf_7) hS rfl (fun locs hS => ?_)
  have hf : (f_X9_dayOf dyL o) = (f_X11_cell 20 dyL o (-2)) := rfl
  exact g_iretR S hr hlk hS (by rw [hf] <;> rfl) dX9_dayOf_10
def f_X9_reasonOf (rsn : Nat → Int32) (o : Int32) : Int32 := (f_X11_cell 20 rsn o 0)
set_option maxHeartbeats 4000000 in
set_option maxRecDepth 100000 in
theorem c_X9_reasonOf (l : Launch) (D : va_G) (A : Nat → Prop) (w : va_W) (α : Nat → Nat) (k : Nat) (plc : Nat → Int32) (car : Nat → Int32) (bnd : Nat → Int32) (bsk : Nat → Int32) (dyL : Nat → Int32) (rsn : Nat → Int32) (o : Int32) (hB0 : Blk w k (cSticks D α k plc car bnd bsk dyL rsn)) : Met l yX9_reasonOf (ws_ yX9_reasonOf cX9_reasonOf 2 (some .int)) ({ frames := 1, cells := 0, slots := 0, locals := 22 }) (gPre D A [.ref (α (k)), .int o] w) (gR (some (.int (f_X9_reasonOf rsn o)))) 0 0 A := by
  refine g_met [(0, .ref (α (k))), (1, .int o)] (plainFor_of_name (by decide)) (Nat.le_of_ble_eq_true rfl) rfl (fun pg en s mi ar below me co ls S hK hP hD hE hS hr hlk hnm hl => ?_)
  refine lv_aload_n S.1 S.2.1 dX9_reasonOf_0 rfl (lv_at hl 0 rfl) ?_
  refine g_get (v := .ref (α (k + 6))) S hK hP (hB0 0 _ rfl) rfl inX9 5 (by decide) qw149 rfl dX9_reasonOf_1 ?_
  refine lv_iload_n S.1 S.2.1 dX9_reasonOf_4 rfl (lv_at hl 1 rfl) ?_
  refine lv_iconst (v := 0) S.1 S.2.1 dX9_reasonOf_5 (by decide) ?_
  refine g_aftR0 (st1 := [.int (f_X11_cell 20 rsn o 0)]) (g_SN (As := [.ref (α (k + 6)), .int o, .int 0]) (rest := []) S ms_X11_cell qn_RX9_38 (c_X11_cell l D A w α (k + 6) 20 rsn o 0 (hB0 6 _ rfl) (by first | assumption | exact vin_d (by decide) | exact vp_in_nI (by omega) (by decide) | decide | omega)) hK hP hD hE hS rfl rfl hl.1 (Nat.le_of_ble_eq_true rfl) rfl rfl ⟨(Nat.le_of_ble_eq_true rfl), (Nat.le_of_ble_eq_true rfl)⟩ ⟨(Nat.le_of_ble_eq_true rfl), (Nat.le_of_ble_eq_true rfl)⟩ dX9_reasonOf_6) hS rfl (fun locs hS => ?_)
  have hf : (f_X9_reasonOf rsn o) = (f_X11_cell 20 rsn o 0) := rfl
  exact g_iretR S hr hlk hS (by rw [hf] <;> rfl) dX9_reasonOf_9
def f_X9_isHadBy (plc : Nat → Int32) (car : Nat → Int32) (p : Int32) (o : Int32) : Bool := (if (f_X9_placeOf plc o) = 0 then (if p = o then true else false) else (if (f_X9_placeOf plc o) = 1 then (if (f_X9_carrierOf car o) = p then true else false) else false))
set_option maxHeartbeats 4000000 in
set_option maxRecDepth 100000 in
theorem c_X9_isHadBy (l : Launch) (D : va_G) (A : Nat → Prop) (w : va_W) (α : Nat → Nat) (k : Nat) (plc : Nat → Int32) (car : Nat → Int32) (bnd : Nat → Int32) (bsk : Nat → Int32) (dyL : Nat → Int32) (rsn : Nat → Int32) (p : Int32) (o : Int32) (hB0 : Blk w k (cSticks D α k plc car bnd bsk dyL rsn)) : Met l yX9_isHadBy (ws_ yX9_isHadBy cX9_isHadBy 3 (some .boolean)) ({ frames := 2, cells := 0, slots := 0, locals := 43 }) (gPre D A [.ref (α (k)), .int p, .int o] w) (gR (some (.int (b2i (f_X9_isHadBy plc car p o))))) 0 0 A := by
  refine g_met [(0, .ref (α (k))), (1, .int p), (2, .int o)] (plainFor_of_name (by decide)) (Nat.le_of_ble_eq_true rfl) rfl (fun pg en s mi ar below me co ls S hK hP hD hE hS hr hlk hnm hl => ?_)
  refine lv_aload_n S.1 S.2.1 dX9_isHadBy_0 rfl (lv_at hl 0 rfl) ?_
  refine lv_iload_n S.1 S.2.1 dX9_isHadBy_1 rfl (lv_at hl 2 rfl) ?_
  refine g_aftR0 (st1 := [.int (f_X9_placeOf plc o)]) (g_V (As := [.int o]) (rest := []) S mi_X9_placeOf qw500 (c_X9_placeOf l D A w α (k) plc car bnd bsk dyL rsn o hB0) hK hP hD hE hS (hB0 0 _ rfl) rfl rfl rfl hl.1 (Nat.le_of_ble_eq_true rfl) rfl rfl ⟨(Nat.le_of_ble_eq_true rfl), (Nat.le_of_ble_eq_true rfl)⟩ ⟨(Nat.le_of_ble_eq_true rfl), (Nat.le_of_ble_eq_true rfl)⟩ dX9_isHadBy_2) hS rfl (fun locs hS => ?_)
  refine lv_if_ne (tgt := 19) S.1 S.2.1 dX9_isHadBy_5 (by decide) (fun (c1 : ¬ (f_X9_placeOf plc o) = 0) => ?_) (fun (c1 : (f_X9_placeOf plc o) = 0) => ?_)
  · refine lv_aload_n S.1 S.2.1 dX9_isHadBy_19 rfl (lv_at hl 0 rfl) ?_
    refine lv_iload_n S.1 S.2.1 dX9_isHadBy_20 rfl (lv_at hl 2 rfl) ?_
    refine g_aftR0 (st1 := [.int (f_X9_placeOf plc o)]) (g_V (As := [.int o]) (rest := []) S mi_X9_placeOf qw500 (c_X9_placeOf l D A w α (k) plc car bnd bsk dyL rsn o hB0) hK hP hD hE hS (hB0 0 _ rfl) rfl rfl rfl hl.1 (Nat.le_of_ble_eq_true rfl) rfl rfl ⟨(Nat.le_of_ble_eq_true rfl), (Nat.le_of_ble_eq_true rfl)⟩ ⟨(Nat.le_of_ble_eq_true rfl), (Nat.le_of_ble_eq_true rfl)⟩ dX9_isHadBy_21) hS rfl (fun locs hS => ?_)
    refine lv_iconst (v := 1) S.1 S.2.1 dX9_isHadBy_24 (by decide) ?_
    refine lv_icmp_ne (tgt := 41) S.1 S.2.1 dX9_isHadBy_25 (by decide) (fun (c2 : ¬ (f_X9_placeOf plc o) = 1) => ?_) (fun (c2 : (f_X9_placeOf plc o) = 1) => ?_)
    · refine lv_iconst (v := 0) S.1 S.2.1 dX9_isHadBy_41 (by decide) ?_
      have hf : (f_X9_isHadBy plc car p o) = false := (if_neg c1).trans (if_neg c2)
      exact g_zretR S hr hlk hS rfl (by rw [hf] <;> rfl) dX9_isHadBy_42
    · refine lv_aload_n S.1 S.2.1 dX9_isHadBy_28 rfl (lv_at hl 0 rfl) ?_
      refine lv_iload_n S.1 S.2.1 dX9_isHadBy_29 rfl (lv_at hl 2 rfl) ?_
      refine g_aftR0 (st1 := [.int (f_X9_carrierOf car o)]) (g_V (As := [.int o]) (rest := []) S mi_X9_carrierOf qw440 (c_X9_carrierOf l D A w α (k) plc car bnd bsk dyL rsn o hB0) hK hP hD hE hS (hB0 0 _ rfl) rfl rfl rfl hl.1 (Nat.le_of_ble_eq_true rfl) rfl rfl ⟨(Nat.le_of_ble_eq_true rfl), (Nat.le_of_ble_eq_true rfl)⟩ ⟨(Nat.le_of_ble_eq_true rfl), (Nat.le_of_ble_eq_true rfl)⟩ dX9_isHadBy_30) hS rfl (fun locs hS => ?_)
      refine lv_iload_n S.1 S.2.1 dX9_isHadBy_33 rfl (lv_at hl 1 rfl) ?_
      refine lv_icmp_ne (tgt := 41) S.1 S.2.1 dX9_isHadBy_34 (by decide) (fun (c3 : ¬ (f_X9_carrierOf car o) = p) => ?_) (fun (c3 : (f_X9_carrierOf car o) = p) => ?_)
      · refine lv_iconst (v := 0) S.1 S.2.1 dX9_isHadBy_41 (by decide) ?_
        have hf : (f_X9_isHadBy plc car p o) = false := (if_neg c1).trans ((if_pos c2).trans (if_neg c3))
        exact g_zretR S hr hlk hS rfl (by rw [hf] <;> rfl) dX9_isHadBy_42
      · refine lv_iconst (v := 1) S.1 S.2.1 dX9_isHadBy_37 (by decide) ?_
        refine lv_goto (tgt := 42) S.1 S.2.1 dX9_isHadBy_38 (by decide) ?_
        have hf : (f_X9_isHadBy plc car p o) = true := (if_neg c1).trans ((if_pos c2).trans (if_pos c3))
        exact g_zretR S hr hlk hS rfl (by rw [hf] <;> rfl) dX9_isHadBy_42
  · refine lv_iload_n S.1 S.2.1 dX9_isHadBy_8 rfl (lv_at hl 1 rfl) ?_
    refine lv_iload_n S.1 S.2.1 dX9_isHadBy_9 rfl (lv_at hl 2 rfl) ?_
    refine lv_icmp_ne (tgt := 17) S.1 S.2.1 dX9_isHadBy_10 (by decide) (fun (c4 : ¬ p = o) => ?_) (fun (c4 : p = o) => ?_)
    · refine lv_iconst (v := 0) S.1 S.2.1 dX9_isHadBy_17 (by decide) ?_
      have hf : (f_X9_isHadBy plc car p o) = false := (if_pos c1).trans (if_neg c4)
      exact g_zretR S hr hlk hS rfl (by rw [hf] <;> rfl) dX9_isHadBy_18
    · refine lv_iconst (v := 1) S.1 S.2.1 dX9_isHadBy_13 (by decide) ?_
      refine lv_goto (tgt := 18) S.1 S.2.1 dX9_isHadBy_14 (by decide) ?_
      have hf : (f_X9_isHadBy plc car p o) = true := (if_pos c1).trans (if_pos c4)
      exact g_zretR S hr hlk hS rfl (by rw [hf] <;> rfl) dX9_isHadBy_18
def f_X9_isWrong (plc : Nat → Int32) (rsn : Nat → Int32) (o : Int32) : Bool := (if (f_X9_placeOf plc o) = 2 then (if (f_X9_reasonOf rsn o) = 0 then false else true) else false)
set_option maxHeartbeats 4000000 in
set_option maxRecDepth 100000 in
theorem c_X9_isWrong (l : Launch) (D : va_G) (A : Nat → Prop) (w : va_W) (α : Nat → Nat) (k : Nat) (plc : Nat → Int32) (car : Nat → Int32) (bnd : Nat → Int32) (bsk : Nat → Int32) (dyL : Nat → Int32) (rsn : Nat → Int32) (o : Int32) (hB0 : Blk w k (cSticks D α k plc car bnd bsk dyL rsn)) : Met l yX9_isWrong (ws_ yX9_isWrong cX9_isWrong 2 (some .boolean)) ({ frames := 2, cells := 0, slots := 0, locals := 43 }) (gPre D A [.ref (α (k)), .int o] w) (gR (some (.int (b2i (f_X9_isWrong plc rsn o))))) 0 0 A := by
  refine g_met [(0, .ref (α (k))), (1, .int o)] (plainFor_of_name (by decide)) (Nat.le_of_ble_eq_true rfl) rfl (fun pg en s mi ar below me co ls S hK hP hD hE hS hr hlk hnm hl => ?_)
  refine lv_aload_n S.1 S.2.1 dX9_isWrong_0 rfl (lv_at hl 0 rfl) ?_
  refine lv_iload_n S.1 S.2.1 dX9_isWrong_1 rfl (lv_at hl 1 rfl) ?_
  refine g_aftR0 (st1 := [.int (f_X9_placeOf plc o)]) (g_V (As := [.int o]) (rest := []) S mi_X9_placeOf qw500 (c_X9_placeOf l D A w α (k) plc car bnd bsk dyL rsn o hB0) hK hP hD hE hS (hB0 0 _ rfl) rfl rfl rfl hl.1 (Nat.le_of_ble_eq_true rfl) rfl rfl ⟨(Nat.le_of_ble_eq_true rfl), (Nat.le_of_ble_eq_true rfl)⟩ ⟨(Nat.le_of_ble_eq_true rfl), (Nat.le_of_ble_eq_true rfl)⟩ dX9_isWrong_2) hS rfl (fun locs hS => ?_)
  refine lv_iconst (v := 2) S.1 S.2.1 dX9_isWrong_5 (by decide) ?_
  refine lv_icmp_ne (tgt := 21) S.1 S.2.1 dX9_isWrong_6 (by decide) (fun (c1 : ¬ (f_X9_placeOf plc o) = 2) => ?_) (fun (c1 : (f_X9_placeOf plc o) = 2) => ?_)
  · refine lv_iconst (v := 0) S.1 S.2.1 dX9_isWrong_21 (by decide) ?_
    have hf : (f_X9_isWrong plc rsn o) = false := if_neg c1
    exact g_zretR S hr hlk hS rfl (by rw [hf] <;> rfl) dX9_isWrong_22
  · refine lv_aload_n S.1 S.2.1 dX9_isWrong_9 rfl (lv_at hl 0 rfl) ?_
    refine lv_iload_n S.1 S.2.1 dX9_isWrong_10 rfl (lv_at hl 1 rfl) ?_
    refine g_aftR0 (st1 := [.int (f_X9_reasonOf rsn o)]) (g_V (As := [.int o]) (rest := []) S mi_X9_reasonOf qw829 (c_X9_reasonOf l D A w α (k) plc car bnd bsk dyL rsn o hB0) hK hP hD hE hS (hB0 0 _ rfl) rfl rfl rfl hl.1 (Nat.le_of_ble_eq_true rfl) rfl rfl ⟨(Nat.le_of_ble_eq_true rfl), (Nat.le_of_ble_eq_true rfl)⟩ ⟨(Nat.le_of_ble_eq_true rfl), (Nat.le_of_ble_eq_true rfl)⟩ dX9_isWrong_11) hS rfl (fun locs hS => ?_)
    refine lv_if_eq (tgt := 21) S.1 S.2.1 dX9_isWrong_14 (by decide) (fun (c2 : (f_X9_reasonOf rsn o) = 0) => ?_) (fun (c2 : ¬ (f_X9_reasonOf rsn o) = 0) => ?_)
    · refine lv_iconst (v := 0) S.1 S.2.1 dX9_isWrong_21 (by decide) ?_
      have hf : (f_X9_isWrong plc rsn o) = false := (if_pos c1).trans (if_pos c2)
      exact g_zretR S hr hlk hS rfl (by rw [hf] <;> rfl) dX9_isWrong_22
    · refine lv_iconst (v := 1) S.1 S.2.1 dX9_isWrong_17 (by decide) ?_
      refine lv_goto (tgt := 22) S.1 S.2.1 dX9_isWrong_18 (by decide) ?_
      have hf : (f_X9_isWrong plc rsn o) = true := (if_pos c1).trans (if_neg c2)
      exact g_zretR S hr hlk hS rfl (by rw [hf] <;> rfl) dX9_isWrong_22
def f_X9_handTo (plc : Nat → Int32) (car : Nat → Int32) (bnd : Nat → Int32) (o : Int32) (p : Int32) (b : Int32) : (Nat → Int32) × (Nat → Int32) × (Nat → Int32) := ((f_X11_setCell 20 bnd o b), (f_X11_setCell 20 car o p), (f_X11_setCell 20 plc o 1))
set_option maxHeartbeats 4000000 in
set_option maxRecDepth 100000 in
theorem c_X9_handTo (l : Launch) (D : va_G) (A : Nat → Prop) (w : va_W) (α : Nat → Nat) (k : Nat) (plc : Nat → Int32) (car : Nat → Int32) (bnd : Nat → Int32) (bsk : Nat → Int32) (dyL : Nat → Int32) (rsn : Nat → Int32) (o : Int32) (p : Int32) (b : Int32) (hB0 : Blk w k (cSticks D α k plc car bnd bsk dyL rsn)) : Met l yX9_handTo (ws_ yX9_handTo cX9_handTo 4 none) ({ frames := 1, cells := 0, slots := 0, locals := 22 }) (gPre D A [.ref (α (k)), .int o, .int p, .int b] w) (gQ D A none (fun w1 => Blk w1 k (cSticks D α k ((f_X9_handTo plc car bnd o p b).2.2) ((f_X9_handTo plc car bnd o p b).2.1) ((f_X9_handTo plc car bnd o p b).1) bsk dyL rsn) ∧ Same w w1 k 7)) 0 0 A := by
  refine g_met [(0, .ref (α (k))), (1, .int o), (2, .int p), (3, .int b)] (plainFor_of_name (by decide)) (Nat.le_of_ble_eq_true rfl) rfl (fun pg en s mi ar below me co ls S hK hP hD hE hS hr hlk hnm hl => ?_)
  have hF : Same w w k 7 := Same.rf
  refine lv_aload_n S.1 S.2.1 dX9_handTo_0 rfl (lv_at hl 0 rfl) ?_
  refine g_get (v := .ref (α (k + 1))) S hK hP (hB0 0 _ rfl) rfl inX9 0 (by decide) qw144 rfl dX9_handTo_1 ?_
  refine lv_iload_n S.1 S.2.1 dX9_handTo_4 rfl (lv_at hl 1 rfl) ?_
  refine lv_iconst (v := 1) S.1 S.2.1 dX9_handTo_5 (by decide) ?_
  refine g_aft0 (st1 := []) (g_SN (As := [.ref (α (k + 1)), .int o, .int 1]) (rest := []) S ms_X11_setCell qn_RX9_52 (c_X11_setCell l D A w α (k + 1) 20 plc o 1 (hB0 1 _ rfl) (by first | assumption | exact vin_d (by decide) | exact vp_in_nI (by omega) (by decide) | decide | omega)) hK hP hD hE hS rfl rfl hl.1 (Nat.le_of_ble_eq_true rfl) rfl rfl ⟨(Nat.le_of_ble_eq_true rfl), (Nat.le_of_ble_eq_true rfl)⟩ ⟨(Nat.le_of_ble_eq_true rfl), (Nat.le_of_ble_eq_true rfl)⟩ dX9_handTo_6) hS rfl (fun w1 H locs hQ hP hD hS => ?_)
  have hw := hQ
  have hF := Same.set hF 1 hw (by decide)
  have hB0 : Blk w1 k (cSticks D α k (f_X11_setCell 20 plc o 1) car bnd bsk dyL rsn) := hB0.set 1 hw (Nat.le_of_ble_eq_true rfl) rfl
  refine lv_aload_n S.1 S.2.1 dX9_handTo_9 rfl (lv_at hl 0 rfl) ?_
  refine g_get (v := .ref (α (k + 2))) S hK hP (hB0 0 _ rfl) rfl inX9 1 (by decide) qw145 rfl dX9_handTo_10 ?_
  refine lv_iload_n S.1 S.2.1 dX9_handTo_13 rfl (lv_at hl 1 rfl) ?_
  refine lv_iload_n S.1 S.2.1 dX9_handTo_14 rfl (lv_at hl 2 rfl) ?_
  refine g_aft0 (st1 := []) (g_SN (As := [.ref (α (k + 2)), .int o, .int p]) (rest := []) S ms_X11_setCell qn_RX9_52 (c_X11_setCell l D A w1 α (k + 2) 20 car o p (hB0 2 _ rfl) (by first | assumption | exact vin_d (by decide) | exact vp_in_nI (by omega) (by decide) | decide | omega)) hK hP hD hE hS rfl rfl hl.1 (Nat.le_of_ble_eq_true rfl) rfl rfl ⟨(Nat.le_of_ble_eq_true rfl), (Nat.le_of_ble_eq_true rfl)⟩ ⟨(Nat.le_of_ble_eq_true rfl), (Nat.le_of_ble_eq_true rfl)⟩ dX9_handTo_15) hS rfl (fun w2 H locs hQ hP hD hS => ?_)
  have hw := hQ
  have hF := Same.set hF 2 hw (by decide)
  have hB0 : Blk w2 k (cSticks D α k (f_X11_setCell 20 plc o 1) (f_X11_setCell 20 car o p) bnd bsk dyL rsn) := hB0.set 2 hw (Nat.le_of_ble_eq_true rfl) rfl
  refine lv_aload_n S.1 S.2.1 dX9_handTo_18 rfl (lv_at hl 0 rfl) ?_
  refine g_get (v := .ref (α (k + 3))) S hK hP (hB0 0 _ rfl) rfl inX9 2 (by decide) qw146 rfl dX9_handTo_19 ?_
  refine lv_iload_n S.1 S.2.1 dX9_handTo_22 rfl (lv_at hl 1 rfl) ?_
  refine lv_iload_n S.1 S.2.1 dX9_handTo_23 rfl (lv_at hl 3 rfl) ?_
  refine g_aft0 (st1 := []) (g_SN (As := [.ref (α (k + 3)), .int o, .int b]) (rest := []) S ms_X11_setCell qn_RX9_52 (c_X11_setCell l D A w2 α (k + 3) 20 bnd o b (hB0 3 _ rfl) (by first | assumption | exact vin_d (by decide) | exact vp_in_nI (by omega) (by decide) | decide | omega)) hK hP hD hE hS rfl rfl hl.1 (Nat.le_of_ble_eq_true rfl) rfl rfl ⟨(Nat.le_of_ble_eq_true rfl), (Nat.le_of_ble_eq_true rfl)⟩ ⟨(Nat.le_of_ble_eq_true rfl), (Nat.le_of_ble_eq_true rfl)⟩ dX9_handTo_24) hS rfl (fun w3 H locs hQ hP hD hS => ?_)
  have hw := hQ
  have hF := Same.set hF 3 hw (by decide)
  have hB0 : Blk w3 k (cSticks D α k (f_X11_setCell 20 plc o 1) (f_X11_setCell 20 car o p) (f_X11_setCell 20 bnd o b) bsk dyL rsn) := hB0.set 3 hw (Nat.le_of_ble_eq_true rfl) rfl
  have hf : (f_X9_handTo plc car bnd o p b) = ((f_X11_setCell 20 bnd o b), (f_X11_setCell 20 car o p), (f_X11_setCell 20 plc o 1)) := rfl
  exact g_vret S hr hlk hP hD hS (rfl) (⟨by rw [hf]; exact hB0, hF⟩) dX9_handTo_27
def f_X9_handBack (plc : Nat → Int32) (car : Nat → Int32) (bnd : Nat → Int32) (o : Int32) : (Nat → Int32) × (Nat → Int32) × (Nat → Int32) := ((f_X11_setCell 20 bnd o (-2)), (f_X11_setCell 20 car o (-2)), (f_X11_setCell 20 plc o 0))
set_option maxHeartbeats 4000000 in
set_option maxRecDepth 100000 in
theorem c_X9_handBack (l : Launch) (D : va_G) (A : Nat → Prop) (w : va_W) (α : Nat → Nat) (k : Nat) (plc : Nat → Int32) (car : Nat → Int32) (bnd : Nat → Int32) (bsk : Nat → Int32) (dyL : Nat → Int32) (rsn : Nat → Int32) (o : Int32) (hB0 : Blk w k (cSticks D α k plc car bnd bsk dyL rsn)) : Met l yX9_handBack (ws_ yX9_handBack cX9_handBack 2 none) ({ frames := 1, cells := 0, slots := 0, locals := 22 }) (gPre D A [.ref (α (k)), .int o] w) (gQ D A none (fun w1 => Blk w1 k (cSticks D α k ((f_X9_handBack plc car bnd o).2.2) ((f_X9_handBack plc car bnd o).2.1) ((f_X9_handBack plc car bnd o).1) bsk dyL rsn) ∧ Same w w1 k 7)) 0 0 A := by
  refine g_met [(0, .ref (α (k))), (1, .int o)] (plainFor_of_name (by decide)) (Nat.le_of_ble_eq_true rfl) rfl (fun pg en s mi ar below me co ls S hK hP hD hE hS hr hlk hnm hl => ?_)
  have hF : Same w w k 7 := Same.rf
  refine lv_aload_n S.1 S.2.1 dX9_handBack_0 rfl (lv_at hl 0 rfl) ?_
  refine g_get (v := .ref (α (k + 1))) S hK hP (hB0 0 _ rfl) rfl inX9 0 (by decide) qw144 rfl dX9_handBack_1 ?_
  refine lv_iload_n S.1 S.2.1 dX9_handBack_4 rfl (lv_at hl 1 rfl) ?_
  refine lv_iconst (v := 0) S.1 S.2.1 dX9_handBack_5 (by decide) ?_
  refine g_aft0 (st1 := []) (g_SN (As := [.ref (α (k + 1)), .int o, .int 0]) (rest := []) S ms_X11_setCell qn_RX9_52 (c_X11_setCell l D A w α (k + 1) 20 plc o 0 (hB0 1 _ rfl) (by first | assumption | exact vin_d (by decide) | exact vp_in_nI (by omega) (by decide) | decide | omega)) hK hP hD hE hS rfl rfl hl.1 (Nat.le_of_ble_eq_true rfl) rfl rfl ⟨(Nat.le_of_ble_eq_true rfl), (Nat.le_of_ble_eq_true rfl)⟩ ⟨(Nat.le_of_ble_eq_true rfl), (Nat.le_of_ble_eq_true rfl)⟩ dX9_handBack_6) hS rfl (fun w1 H locs hQ hP hD hS => ?_)
  have hw := hQ
  have hF := Same.set hF 1 hw (by decide)
  have hB0 : Blk w1 k (cSticks D α k (f_X11_setCell 20 plc o 0) car bnd bsk dyL rsn) := hB0.set 1 hw (Nat.le_of_ble_eq_true rfl) rfl
  refine lv_aload_n S.1 S.2.1 dX9_handBack_9 rfl (lv_at hl 0 rfl) ?_
  refine g_get (v := .ref (α (k + 2))) S hK hP (hB0 0 _ rfl) rfl inX9 1 (by decide) qw145 rfl dX9_handBack_10 ?_
  refine lv_iload_n S.1 S.2.1 dX9_handBack_13 rfl (lv_at hl 1 rfl) ?_
  refine lv_bipush (v := (-2)) S.1 S.2.1 dX9_handBack_14 (by decide) ?_
  refine g_aft0 (st1 := []) (g_SN (As := [.ref (α (k + 2)), .int o, .int (-2)]) (rest := []) S ms_X11_setCell qn_RX9_52 (c_X11_setCell l D A w1 α (k + 2) 20 car o (-2) (hB0 2 _ rfl) (by first | assumption | exact vin_d (by decide) | exact vp_in_nI (by omega) (by decide) | decide | omega)) hK hP hD hE hS rfl rfl hl.1 (Nat.le_of_ble_eq_true rfl) rfl rfl ⟨(Nat.le_of_ble_eq_true rfl), (Nat.le_of_ble_eq_true rfl)⟩ ⟨(Nat.le_of_ble_eq_true rfl), (Nat.le_of_ble_eq_true rfl)⟩ dX9_handBack_16) hS rfl (fun w2 H locs hQ hP hD hS => ?_)
  have hw := hQ
  have hF := Same.set hF 2 hw (by decide)
  have hB0 : Blk w2 k (cSticks D α k (f_X11_setCell 20 plc o 0) (f_X11_setCell 20 car o (-2)) bnd bsk dyL rsn) := hB0.set 2 hw (Nat.le_of_ble_eq_true rfl) rfl
  refine lv_aload_n S.1 S.2.1 dX9_handBack_19 rfl (lv_at hl 0 rfl) ?_
  refine g_get (v := .ref (α (k + 3))) S hK hP (hB0 0 _ rfl) rfl inX9 2 (by decide) qw146 rfl dX9_handBack_20 ?_
  refine lv_iload_n S.1 S.2.1 dX9_handBack_23 rfl (lv_at hl 1 rfl) ?_
  refine lv_bipush (v := (-2)) S.1 S.2.1 dX9_handBack_24 (by decide) ?_
  refine g_aft0 (st1 := []) (g_SN (As := [.ref (α (k + 3)), .int o, .int (-2)]) (rest := []) S ms_X11_setCell qn_RX9_52 (c_X11_setCell l D A w2 α (k + 3) 20 bnd o (-2) (hB0 3 _ rfl) (by first | assumption | exact vin_d (by decide) | exact vp_in_nI (by omega) (by decide) | decide | omega)) hK hP hD hE hS rfl rfl hl.1 (Nat.le_of_ble_eq_true rfl) rfl rfl ⟨(Nat.le_of_ble_eq_true rfl), (Nat.le_of_ble_eq_true rfl)⟩ ⟨(Nat.le_of_ble_eq_true rfl), (Nat.le_of_ble_eq_true rfl)⟩ dX9_handBack_26) hS rfl (fun w3 H locs hQ hP hD hS => ?_)
  have hw := hQ
  have hF := Same.set hF 3 hw (by decide)
  have hB0 : Blk w3 k (cSticks D α k (f_X11_setCell 20 plc o 0) (f_X11_setCell 20 car o (-2)) (f_X11_setCell 20 bnd o (-2)) bsk dyL rsn) := hB0.set 3 hw (Nat.le_of_ble_eq_true rfl) rfl
  have hf : (f_X9_handBack plc car bnd o) = ((f_X11_setCell 20 bnd o (-2)), (f_X11_setCell 20 car o (-2)), (f_X11_setCell 20 plc o 0)) := rfl
  exact g_vret S hr hlk hP hD hS (rfl) (⟨by rw [hf]; exact hB0, hF⟩) dX9_handBack_29
def f_X9_putInto (plc : Nat → Int32) (bsk : Nat → Int32) (dyL : Nat → Int32) (rsn : Nat → Int32) (o : Int32) (b : Int32) (d : Int32) (y : Int32) : (Nat → Int32) × (Nat → Int32) × (Nat → Int32) × (Nat → Int32) := ((f_X11_setCell 20 bsk o b), (f_X11_setCell 20 dyL o d), (f_X11_setCell 20 plc o 2), (f_X11_setCell 20 rsn o y))
set_option maxHeartbeats 4000000 in
set_option maxRecDepth 100000 in
theorem c_X9_putInto (l : Launch) (D : va_G) (A : Nat → Prop) (w : va_W) (α : Nat → Nat) (k : Nat) (plc : Nat → Int32) (car : Nat → Int32) (bnd : Nat → Int32) (bsk : Nat → Int32) (dyL : Nat → Int32) (rsn : Nat → Int32) (o : Int32) (b : Int32) (d : Int32) (y : Int32) (hB0 : Blk w k (cSticks D α k plc car bnd bsk dyL rsn)) : Met l yX9_putInto (ws_ yX9_putInto cX9_putInto 5 none) ({ frames := 1, cells := 0, slots := 0, locals := 22 }) (gPre D A [.ref (α (k)), .int o, .int b, .int d, .int y] w) (gQ D A none (fun w1 => Blk w1 k (cSticks D α k ((f_X9_putInto plc bsk dyL rsn o b d y).2.2.1) car bnd ((f_X9_putInto plc bsk dyL rsn o b d y).1) ((f_X9_putInto plc bsk dyL rsn o b d y).2.1) ((f_X9_putInto plc bsk dyL rsn o b d y).2.2.2)) ∧ Same w w1 k 7)) 0 0 A := by
  refine g_met [(0, .ref (α (k))), (1, .int o), (2, .int b), (3, .int d), (4, .int y)] (plainFor_of_name (by decide)) (Nat.le_of_ble_eq_true rfl) rfl (fun pg en s mi ar below me co ls S hK hP hD hE hS hr hlk hnm hl => ?_)
  have hF : Same w w k 7 := Same.rf
  refine lv_aload_n S.1 S.2.1 dX9_putInto_0 rfl (lv_at hl 0 rfl) ?_
  refine g_get (v := .ref (α (k + 1))) S hK hP (hB0 0 _ rfl) rfl inX9 0 (by decide) qw144 rfl dX9_putInto_1 ?_
  refine lv_iload_n S.1 S.2.1 dX9_putInto_4 rfl (lv_at hl 1 rfl) ?_
  refine lv_iconst (v := 2) S.1 S.2.1 dX9_putInto_5 (by decide) ?_
  refine g_aft0 (st1 := []) (g_SN (As := [.ref (α (k + 1)), .int o, .int 2]) (rest := []) S ms_X11_setCell qn_RX9_52 (c_X11_setCell l D A w α (k + 1) 20 plc o 2 (hB0 1 _ rfl) (by first | assumption | exact vin_d (by decide) | exact vp_in_nI (by omega) (by decide) | decide | omega)) hK hP hD hE hS rfl rfl hl.1 (Nat.le_of_ble_eq_true rfl) rfl rfl ⟨(Nat.le_of_ble_eq_true rfl), (Nat.le_of_ble_eq_true rfl)⟩ ⟨(Nat.le_of_ble_eq_true rfl), (Nat.le_of_ble_eq_true rfl)⟩ dX9_putInto_6) hS rfl (fun w1 H locs hQ hP hD hS => ?_)
  have hw := hQ
  have hF := Same.set hF 1 hw (by decide)
  have hB0 : Blk w1 k (cSticks D α k (f_X11_setCell 20 plc o 2) car bnd bsk dyL rsn) := hB0.set 1 hw (Nat.le_of_ble_eq_true rfl) rfl
  refine lv_aload_n S.1 S.2.1 dX9_putInto_9 rfl (lv_at hl 0 rfl) ?_
  refine g_get (v := .ref (α (k + 4))) S hK hP (hB0 0 _ rfl) rfl inX9 3 (by decide) qw147 rfl dX9_putInto_10 ?_
  refine lv_iload_n S.1 S.2.1 dX9_putInto_13 rfl (lv_at hl 1 rfl) ?_
  refine lv_iload_n S.1 S.2.1 dX9_putInto_14 rfl (lv_at hl 2 rfl) ?_
  refine g_aft0 (st1 := []) (g_SN (As := [.ref (α (k + 4)), .int o, .int b]) (rest := []) S ms_X11_setCell qn_RX9_52 (c_X11_setCell l D A w1 α (k + 4) 20 bsk o b (hB0 4 _ rfl) (by first | assumption | exact vin_d (by decide) | exact vp_in_nI (by omega) (by decide) | decide | omega)) hK hP hD hE hS rfl rfl hl.1 (Nat.le_of_ble_eq_true rfl) rfl rfl ⟨(Nat.le_of_ble_eq_true rfl), (Nat.le_of_ble_eq_true rfl)⟩ ⟨(Nat.le_of_ble_eq_true rfl), (Nat.le_of_ble_eq_true rfl)⟩ dX9_putInto_15) hS rfl (fun w2 H locs hQ hP hD hS => ?_)
  have hw := hQ
  have hF := Same.set hF 4 hw (by decide)
  have hB0 : Blk w2 k (cSticks D α k (f_X11_setCell 20 plc o 2) car bnd (f_X11_setCell 20 bsk o b) dyL rsn) := hB0.set 4 hw (Nat.le_of_ble_eq_true rfl) rfl
  refine lv_aload_n S.1 S.2.1 dX9_putInto_18 rfl (lv_at hl 0 rfl) ?_
  refine g_get (v := .ref (α (k + 5))) S hK hP (hB0 0 _ rfl) rfl inX9 4 (by decide) qw148 rfl dX9_putInto_19 ?_
  refine lv_iload_n S.1 S.2.1 dX9_putInto_22 rfl (lv_at hl 1 rfl) ?_
  refine lv_iload_n S.1 S.2.1 dX9_putInto_23 rfl (lv_at hl 3 rfl) ?_
  refine g_aft0 (st1 := []) (g_SN (As := [.ref (α (k + 5)), .int o, .int d]) (rest := []) S ms_X11_setCell qn_RX9_52 (c_X11_setCell l D A w2 α (k + 5) 20 dyL o d (hB0 5 _ rfl) (by first | assumption | exact vin_d (by decide) | exact vp_in_nI (by omega) (by decide) | decide | omega)) hK hP hD hE hS rfl rfl hl.1 (Nat.le_of_ble_eq_true rfl) rfl rfl ⟨(Nat.le_of_ble_eq_true rfl), (Nat.le_of_ble_eq_true rfl)⟩ ⟨(Nat.le_of_ble_eq_true rfl), (Nat.le_of_ble_eq_true rfl)⟩ dX9_putInto_24) hS rfl (fun w3 H locs hQ hP hD hS => ?_)
  have hw := hQ
  have hF := Same.set hF 5 hw (by decide)
  have hB0 : Blk w3 k (cSticks D α k (f_X11_setCell 20 plc o 2) car bnd (f_X11_setCell 20 bsk o b) (f_X11_setCell 20 dyL o d) rsn) := hB0.set 5 hw (Nat.le_of_ble_eq_true rfl) rfl
  refine lv_aload_n S.1 S.2.1 dX9_putInto_27 rfl (lv_at hl 0 rfl) ?_
  refine g_get (v := .ref (α (k + 6))) S hK hP (hB0 0 _ rfl) rfl inX9 5 (by decide) qw149 rfl dX9_putInto_28 ?_
  refine lv_iload_n S.1 S.2.1 dX9_putInto_31 rfl (lv_at hl 1 rfl) ?_
  refine lv_iload S.1 S.2.1 dX9_putInto_32 (lv_at hl 4 rfl) ?_
  refine g_aft0 (st1 := []) (g_SN (As := [.ref (α (k + 6)), .int o, .int y]) (rest := []) S ms_X11_setCell qn_RX9_52 (c_X11_setCell l D A w3 α (k + 6) 20 rsn o y (hB0 6 _ rfl) (by first | assumption | exact vin_d (by decide) | exact vp_in_nI (by omega) (by decide) | decide | omega)) hK hP hD hE hS rfl rfl hl.1 (Nat.le_of_ble_eq_true rfl) rfl rfl ⟨(Nat.le_of_ble_eq_true rfl), (Nat.le_of_ble_eq_true rfl)⟩ ⟨(Nat.le_of_ble_eq_true rfl), (Nat.le_of_ble_eq_true rfl)⟩ dX9_putInto_34) hS rfl (fun w4 H locs hQ hP hD hS => ?_)
  have hw := hQ
  have hF := Same.set hF 6 hw (by decide)
  have hB0 : Blk w4 k (cSticks D α k (f_X11_setCell 20 plc o 2) car bnd (f_X11_setCell 20 bsk o b) (f_X11_setCell 20 dyL o d) (f_X11_setCell 20 rsn o y)) := hB0.set 6 hw (Nat.le_of_ble_eq_true rfl) rfl
  have hf : (f_X9_putInto plc bsk dyL rsn o b d y) = ((f_X11_setCell 20 bsk o b), (f_X11_setCell 20 dyL o d), (f_X11_setCell 20 plc o 2), (f_X11_setCell 20 rsn o y)) := rfl
  exact g_vret S hr hlk hP hD hS (rfl) (⟨by rw [hf]; exact hB0, hF⟩) dX9_putInto_37
def f_X9_strike (plc : Nat → Int32) (o : Int32) : (Nat → Int32) := (f_X11_setCell 20 plc o 3)
set_option maxHeartbeats 4000000 in
set_option maxRecDepth 100000 in
theorem c_X9_strike (l : Launch) (D : va_G) (A : Nat → Prop) (w : va_W) (α : Nat → Nat) (k : Nat) (plc : Nat → Int32) (car : Nat → Int32) (bnd : Nat → Int32) (bsk : Nat → Int32) (dyL : Nat → Int32) (rsn : Nat → Int32) (o : Int32) (hB0 : Blk w k (cSticks D α k plc car bnd bsk dyL rsn)) : Met l yX9_strike (ws_ yX9_strike cX9_strike 2 none) ({ frames := 1, cells := 0, slots := 0, locals := 22 }) (gPre D A [.ref (α (k)), .int o] w) (gQ D A none (fun w1 => Blk w1 k (cSticks D α k (f_X9_strike plc o) car bnd bsk dyL rsn) ∧ Same w w1 k 7)) 0 0 A := by
  refine g_met [(0, .ref (α (k))), (1, .int o)] (plainFor_of_name (by decide)) (Nat.le_of_ble_eq_true rfl) rfl (fun pg en s mi ar below me co ls S hK hP hD hE hS hr hlk hnm hl => ?_)
  have hF : Same w w k 7 := Same.rf
  refine lv_aload_n S.1 S.2.1 dX9_strike_0 rfl (lv_at hl 0 rfl) ?_
  refine g_get (v := .ref (α (k + 1))) S hK hP (hB0 0 _ rfl) rfl inX9 0 (by decide) qw144 rfl dX9_strike_1 ?_
  refine lv_iload_n S.1 S.2.1 dX9_strike_4 rfl (lv_at hl 1 rfl) ?_
  refine lv_iconst (v := 3) S.1 S.2.1 dX9_strike_5 (by decide) ?_
  refine g_aft0 (st1 := []) (g_SN (As := [.ref (α (k + 1)), .int o, .int 3]) (rest := []) S ms_X11_setCell qn_RX9_52 (c_X11_setCell l D A w α (k + 1) 20 plc o 3 (hB0 1 _ rfl) (by first | assumption | exact vin_d (by decide) | exact vp_in_nI (by omega) (by decide) | decide | omega)) hK hP hD hE hS rfl rfl hl.1 (Nat.le_of_ble_eq_true rfl) rfl rfl ⟨(Nat.le_of_ble_eq_true rfl), (Nat.le_of_ble_eq_true rfl)⟩ ⟨(Nat.le_of_ble_eq_true rfl), (Nat.le_of_ble_eq_true rfl)⟩ dX9_strike_6) hS rfl (fun w1 H locs hQ hP hD hS => ?_)
  have hw := hQ
  have hF := Same.set hF 1 hw (by decide)
  have hB0 : Blk w1 k (cSticks D α k (f_X11_setCell 20 plc o 3) car bnd bsk dyL rsn) := hB0.set 1 hw (Nat.le_of_ble_eq_true rfl) rfl
  have hf : (f_X9_strike plc o) = (f_X11_setCell 20 plc o 3) := rfl
  exact g_vret S hr hlk hP hD hS (rfl) (⟨by rw [hf]; exact hB0, hF⟩) dX9_strike_9
def L_X9_takeOut_2 (plc : Nat → Int32) (car : Nat → Int32) (bsk : Nat → Int32) (dyL : Nat → Int32) (rsn : Nat → Int32) : Nat → (Nat → Int32) × (Nat → Int32) × (Nat → Int32) × (Nat → Int32) := iter_ (fun n sn => (if (f_X9_carrierOf car (nI n)) = (-2) then ((f_X11_setCell 20 (sn.1) (nI n) (-2)), (f_X11_setCell 20 (sn.2.1) (nI n) (-2)), (f_X11_setCell 20 (sn.2.2.1) (nI n) 0), (f_X11_setCell 20 (sn.2.2.2) (nI n) 0)) else ((f_X11_setCell 20 (sn.1) (nI n) (-2)), (f_X11_setCell 20 (sn.2.1) (nI n) (-2)), (f_X11_setCell 20 (sn.2.2.1) (nI n) 1), (f_X11_setCell 20 (sn.2.2.2) (nI n) 0)))) (bsk, dyL, plc, rsn)
def f_X9_takeOut (plc : Nat → Int32) (car : Nat → Int32) (bsk : Nat → Int32) (dyL : Nat → Int32) (rsn : Nat → Int32) : (Nat → Int32) × (Nat → Int32) × (Nat → Int32) × (Nat → Int32) := ((L_X9_takeOut_2 plc car bsk dyL rsn 20).1, (L_X9_takeOut_2 plc car bsk dyL rsn 20).2.1, (L_X9_takeOut_2 plc car bsk dyL rsn 20).2.2.1, (L_X9_takeOut_2 plc car bsk dyL rsn 20).2.2.2)
set_option maxHeartbeats 4000000 in
set_option maxRecDepth 100000 in
theorem c_X9_takeOut (l : Launch) (D : va_G) (A : Nat → Prop) (w : va_W) (α : Nat → Nat) (k : Nat) (plc : Nat → Int32) (car : Nat → Int32) (bnd : Nat → Int32) (bsk : Nat → Int32) (dyL : Nat → Int32) (rsn : Nat → Int32) (hB0 : Blk w k (cSticks D α k plc car bnd bsk dyL rsn)) : Met l yX9_takeOut (ws_ yX9_takeOut cX9_takeOut 2 none) ({ frames := 2, cells := 0, slots := 0, locals := 43 }) (gPre D A [.ref (α (k))] w) (gQ D A none (fun w1 => Blk w1 k (cSticks D α k ((f_X9_takeOut plc car bsk dyL rsn).2.2.1) car bnd ((f_X9_takeOut plc car bsk dyL rsn).1) ((f_X9_takeOut plc car bsk dyL rsn).2.1) ((f_X9_takeOut plc car bsk dyL rsn).2.2.2)) ∧ Same w w1 k 7)) 0 0 A := by
  refine g_met [(0, .ref (α (k)))] (plainFor_of_name (by decide)) (Nat.le_of_ble_eq_true rfl) rfl (fun pg en s mi ar below me co ls S hK hP hD hE hS hr hlk hnm hl => ?_)
  have hF : Same w w k 7 := Same.rf
  refine lv_iconst (v := 0) S.1 S.2.1 dX9_takeOut_0 (by decide) ?_
  refine lv_istore_n (lv' := [(1, .int 0), (0, .ref (α (k)))]) S.1 S.2.1 dX9_takeOut_1 rfl hl (by decide) rfl (fun ls hl => ?_)
  have lp2 : ∀ (j n : Nat), n + j = 20 → ∀ (wl : va_W) (H : Heap) (locs : List Loc) (ls : Array Slot), va_P D vwCl wl H → va_D A wl → va_S A s.heap H locs → Same w wl k 7 → Blk wl k (cSticks D α k ((L_X9_takeOut_2 plc car bsk dyL rsn n).2.2.1) car bnd ((L_X9_takeOut_2 plc car bsk dyL rsn n).1) ((L_X9_takeOut_2 plc car bsk dyL rsn n).2.1) ((L_X9_takeOut_2 plc car bsk dyL rsn n).2.2.2)) → lv_has ls 2 [(1, .int (nI n)), (0, .ref (α (k)))] → W pg l en ({ frames := 2, cells := 0, slots := 0, locals := 43 } : Room) s mi ar below me co H locs 0 0 (MQ below (gQ D A none (fun w1 => Blk w1 k (cSticks D α k ((f_X9_takeOut plc car bsk dyL rsn).2.2.1) car bnd ((f_X9_takeOut plc car bsk dyL rsn).1) ((f_X9_takeOut plc car bsk dyL rsn).2.1) ((f_X9_takeOut plc car bsk dyL rsn).2.2.2)) ∧ Same w w1 k 7)) ar s 0 0 A) (F0 mi 2 ls []) := by
    intro j
    induction j with
    | zero =>
      intro n hn wl H locs ls hP hD hS hF hB0 hl
      have hn : 20 = n := hn.symm
      subst hn
      refine lv_iload_n S.1 S.2.1 dX9_takeOut_2 rfl (lv_at hl 0 rfl) ?_
      refine lv_bipush (v := 20) S.1 S.2.1 dX9_takeOut_3 (by decide) ?_
      refine lv_icmp_ge (tgt := 66) S.1 S.2.1 dX9_takeOut_5 (by decide) (fun (c1 : 20 ≤ (nI 20)) => ?_) (fun (c1 : ¬ 20 ≤ (nI 20)) => absurd c1 (lp_out (s := 0) (by decide)))
      have hf : (f_X9_takeOut plc car bsk dyL rsn) = ((L_X9_takeOut_2 plc car bsk dyL rsn 20).1, (L_X9_takeOut_2 plc car bsk dyL rsn 20).2.1, (L_X9_takeOut_2 plc car bsk dyL rsn 20).2.2.1, (L_X9_takeOut_2 plc car bsk dyL rsn 20).2.2.2) := rfl
      exact g_vret S hr hlk hP hD hS (rfl) (⟨by rw [hf]; exact hB0, hF⟩) dX9_takeOut_66
    | succ j ih =>
      intro n hn wl H locs ls hP hD hS hF hB0 hl
      refine lv_iload_n S.1 S.2.1 dX9_takeOut_2 rfl (lv_at hl 0 rfl) ?_
      refine lv_bipush (v := 20) S.1 S.2.1 dX9_takeOut_3 (by decide) ?_
      refine lv_icmp_ge (tgt := 66) S.1 S.2.1 dX9_takeOut_5 (by decide) (fun (c2 : 20 ≤ (nI n)) => absurd c2 (lp_in (s := 0) (by decide) hn)) (fun (c2 : ¬ 20 ≤ (nI n)) => ?_)
      refine lv_aload_n S.1 S.2.1 dX9_takeOut_8 rfl (lv_at hl 1 rfl) ?_
      refine g_get (v := .ref (α (k + 1))) S hK hP (hB0 0 _ rfl) rfl inX9 0 (by decide) qw144 rfl dX9_takeOut_9 ?_
      refine lv_iload_n S.1 S.2.1 dX9_takeOut_12 rfl (lv_at hl 0 rfl) ?_
      refine lv_aload_n S.1 S.2.1 dX9_takeOut_13 rfl (lv_at hl 1 rfl) ?_
      refine lv_iload_n S.1 S.2.1 dX9_takeOut_14 rfl (lv_at hl 0 rfl) ?_
      refine g_aftR0 (st1 := [.int (f_X9_carrierOf car (nI n)), .int (nI n), .ref (α (k + 1))]) (g_V (As := [.int (nI n)]) (rest := [.int (nI n), .ref (α (k + 1))]) S mi_X9_carrierOf qw440 (c_X9_carrierOf l D A wl α (k) ((L_X9_takeOut_2 plc car bsk dyL rsn n).2.2.1) car bnd ((L_X9_takeOut_2 plc car bsk dyL rsn n).1) ((L_X9_takeOut_2 plc car bsk dyL rsn n).2.1) ((L_X9_takeOut_2 plc car bsk dyL rsn n).2.2.2) (nI n) hB0) hK hP hD hE hS (hB0 0 _ rfl) rfl rfl rfl hl.1 (Nat.le_of_ble_eq_true rfl) rfl rfl ⟨(Nat.le_of_ble_eq_true rfl), (Nat.le_of_ble_eq_true rfl)⟩ ⟨(Nat.le_of_ble_eq_true rfl), (Nat.le_of_ble_eq_true rfl)⟩ dX9_takeOut_15) hS rfl (fun locs hS => ?_)
      refine lv_bipush (v := (-2)) S.1 S.2.1 dX9_takeOut_18 (by decide) ?_
      refine lv_icmp_ne (tgt := 27) S.1 S.2.1 dX9_takeOut_20 (by decide) (fun (c3 : ¬ (f_X9_carrierOf car (nI n)) = (-2)) => ?_) (fun (c3 : (f_X9_carrierOf car (nI n)) = (-2)) => ?_)
      · refine lv_iconst (v := 1) S.1 S.2.1 dX9_takeOut_27 (by decide) ?_
        refine g_aft0 (st1 := []) (g_SN (As := [.ref (α (k + 1)), .int (nI n), .int 1]) (rest := []) S ms_X11_setCell qn_RX9_52 (c_X11_setCell l D A wl α (k + 1) 20 ((L_X9_takeOut_2 plc car bsk dyL rsn n).2.2.1) (nI n) 1 (hB0 1 _ rfl) (by first | assumption | exact vin_d (by decide) | exact vp_in_nI (by omega) (by decide) | decide | omega)) hK hP hD hE hS rfl rfl hl.1 (Nat.le_of_ble_eq_true rfl) rfl rfl ⟨(Nat.le_of_ble_eq_true rfl), (Nat.le_of_ble_eq_true rfl)⟩ ⟨(Nat.le_of_ble_eq_true rfl), (Nat.le_of_ble_eq_true rfl)⟩ dX9_takeOut_28) hS rfl (fun w1 H locs hQ hP hD hS => ?_)
        have hw := hQ
        have hF := Same.set hF 1 hw (by decide)
        have hB0 : Blk w1 k (cSticks D α k (f_X11_setCell 20 ((L_X9_takeOut_2 plc car bsk dyL rsn n).2.2.1) (nI n) 1) car bnd ((L_X9_takeOut_2 plc car bsk dyL rsn n).1) ((L_X9_takeOut_2 plc car bsk dyL rsn n).2.1) ((L_X9_takeOut_2 plc car bsk dyL rsn n).2.2.2)) := hB0.set 1 hw (Nat.le_of_ble_eq_true rfl) rfl
        refine lv_aload_n S.1 S.2.1 dX9_takeOut_31 rfl (lv_at hl 1 rfl) ?_
        refine g_get (v := .ref (α (k + 4))) S hK hP (hB0 0 _ rfl) rfl inX9 3 (by decide) qw147 rfl dX9_takeOut_32 ?_
        refine lv_iload_n S.1 S.2.1 dX9_takeOut_35 rfl (lv_at hl 0 rfl) ?_
        refine lv_bipush (v := (-2)) S.1 S.2.1 dX9_takeOut_36 (by decide) ?_
        refine g_aft0 (st1 := []) (g_SN (As := [.ref (α (k + 4)), .int (nI n), .int (-2)]) (rest := []) S ms_X11_setCell qn_RX9_52 (c_X11_setCell l D A w1 α (k + 4) 20 ((L_X9_takeOut_2 plc car bsk dyL rsn n).1) (nI n) (-2) (hB0 4 _ rfl) (by first | assumption | exact vin_d (by decide) | exact vp_in_nI (by omega) (by decide) | decide | omega)) hK hP hD hE hS rfl rfl hl.1 (Nat.le_of_ble_eq_true rfl) rfl rfl ⟨(Nat.le_of_ble_eq_true rfl), (Nat.le_of_ble_eq_true rfl)⟩ ⟨(Nat.le_of_ble_eq_true rfl), (Nat.le_of_ble_eq_true rfl)⟩ dX9_takeOut_38) hS rfl (fun w2 H locs hQ hP hD hS => ?_)
        have hw := hQ
        have hF := Same.set hF 4 hw (by decide)
        have hB0 : Blk w2 k (cSticks D α k (f_X11_setCell 20 ((L_X9_takeOut_2 plc car bsk dyL rsn n).2.2.1) (nI n) 1) car bnd (f_X11_setCell 20 ((L_X9_takeOut_2 plc car bsk dyL rsn n).1) (nI n) (-2)) ((L_X9_takeOut_2 plc car bsk dyL rsn n).2.1) ((L_X9_takeOut_2 plc car bsk dyL rsn n).2.2.2)) := hB0.set 4 hw (Nat.le_of_ble_eq_true rfl) rfl
        refine lv_aload_n S.1 S.2.1 dX9_takeOut_41 rfl (lv_at hl 1 rfl) ?_
        refine g_get (v := .ref (α (k + 5))) S hK hP (hB0 0 _ rfl) rfl inX9 4 (by decide) qw148 rfl dX9_takeOut_42 ?_
        refine lv_iload_n S.1 S.2.1 dX9_takeOut_45 rfl (lv_at hl 0 rfl) ?_
        refine lv_bipush (v := (-2)) S.1 S.2.1 dX9_takeOut_46 (by decide) ?_
        refine g_aft0 (st1 := []) (g_SN (As := [.ref (α (k + 5)), .int (nI n), .int (-2)]) (rest := []) S ms_X11_setCell qn_RX9_52 (c_X11_setCell l D A w2 α (k + 5) 20 ((L_X9_takeOut_2 plc car bsk dyL rsn n).2.1) (nI n) (-2) (hB0 5 _ rfl) (by first | assumption | exact vin_d (by decide) | exact vp_in_nI (by omega) (by decide) | decide | omega)) hK hP hD hE hS rfl rfl hl.1 (Nat.le_of_ble_eq_true rfl) rfl rfl ⟨(Nat.le_of_ble_eq_true rfl), (Nat.le_of_ble_eq_true rfl)⟩ ⟨(Nat.le_of_ble_eq_true rfl), (Nat.le_of_ble_eq_true rfl)⟩ dX9_takeOut_48) hS rfl (fun w3 H locs hQ hP hD hS => ?_)
        have hw := hQ
        have hF := Same.set hF 5 hw (by decide)
        have hB0 : Blk w3 k (cSticks D α k (f_X11_setCell 20 ((L_X9_takeOut_2 plc car bsk dyL rsn n).2.2.1) (nI n) 1) car bnd (f_X11_setCell 20 ((L_X9_takeOut_2 plc car bsk dyL rsn n).1) (nI n) (-2)) (f_X11_setCell 20 ((L_X9_takeOut_2 plc car bsk dyL rsn n).2.1) (nI n) (-2)) ((L_X9_takeOut_2 plc car bsk dyL rsn n).2.2.2)) := hB0.set 5 hw (Nat.le_of_ble_eq_true rfl) rfl
        refine lv_aload_n S.1 S.2.1 dX9_takeOut_51 rfl (lv_at hl 1 rfl) ?_
        refine g_get (v := .ref (α (k + 6))) S hK hP (hB0 0 _ rfl) rfl inX9 5 (by decide) qw149 rfl dX9_takeOut_52 ?_
        refine lv_iload_n S.1 S.2.1 dX9_takeOut_55 rfl (lv_at hl 0 rfl) ?_
        refine lv_iconst (v := 0) S.1 S.2.1 dX9_takeOut_56 (by decide) ?_
        refine g_aft0 (st1 := []) (g_SN (As := [.ref (α (k + 6)), .int (nI n), .int 0]) (rest := []) S ms_X11_setCell qn_RX9_52 (c_X11_setCell l D A w3 α (k + 6) 20 ((L_X9_takeOut_2 plc car bsk dyL rsn n).2.2.2) (nI n) 0 (hB0 6 _ rfl) (by first | assumption | exact vin_d (by decide) | exact vp_in_nI (by omega) (by decide) | decide | omega)) hK hP hD hE hS rfl rfl hl.1 (Nat.le_of_ble_eq_true rfl) rfl rfl ⟨(Nat.le_of_ble_eq_true rfl), (Nat.le_of_ble_eq_true rfl)⟩ ⟨(Nat.le_of_ble_eq_true rfl), (Nat.le_of_ble_eq_true rfl)⟩ dX9_takeOut_57) hS rfl (fun w4 H locs hQ hP hD hS => ?_)
        have hw := hQ
        have hF := Same.set hF 6 hw (by decide)
        have hB0 : Blk w4 k (cSticks D α k (f_X11_setCell 20 ((L_X9_takeOut_2 plc car bsk dyL rsn n).2.2.1) (nI n) 1) car bnd (f_X11_setCell 20 ((L_X9_takeOut_2 plc car bsk dyL rsn n).1) (nI n) (-2)) (f_X11_setCell 20 ((L_X9_takeOut_2 plc car bsk dyL rsn n).2.1) (nI n) (-2)) (f_X11_setCell 20 ((L_X9_takeOut_2 plc car bsk dyL rsn n).2.2.2) (nI n) 0)) := hB0.set 6 hw (Nat.le_of_ble_eq_true rfl) rfl
        refine lv_iinc (v := (nI (n + 1))) (lv' := [(1, .int (nI (n + 1))), (0, .ref (α (k)))]) S.1 S.2.1 dX9_takeOut_60 hl (k := 0) rfl ((nI_succ n).symm) (by decide) rfl (fun ls hl => ?_)
        refine lv_goto (tgt := 2) S.1 S.2.1 dX9_takeOut_63 (by decide) ?_
        have hL : (L_X9_takeOut_2 plc car bsk dyL rsn (n + 1)) = ((f_X11_setCell 20 ((L_X9_takeOut_2 plc car bsk dyL rsn n).1) (nI n) (-2)), (f_X11_setCell 20 ((L_X9_takeOut_2 plc car bsk dyL rsn n).2.1) (nI n) (-2)), (f_X11_setCell 20 ((L_X9_takeOut_2 plc car bsk dyL rsn n).2.2.1) (nI n) 1), (f_X11_setCell 20 ((L_X9_takeOut_2 plc car bsk dyL rsn n).2.2.2) (nI n) 0)) := (iter_s _ _ _).trans (if_neg c3)
        refine ih (n + 1) (by omega) _ _ _ _ hP hD hS hF ?_ ?_
        · rw [hL]; exact hB0
        · exact lv_sub hl [0, 1] rfl
      · refine lv_iconst (v := 0) S.1 S.2.1 dX9_takeOut_23 (by decide) ?_
        refine lv_goto (tgt := 28) S.1 S.2.1 dX9_takeOut_24 (by decide) ?_
        refine g_aft0 (st1 := []) (g_SN (As := [.ref (α (k + 1)), .int (nI n), .int 0]) (rest := []) S ms_X11_setCell qn_RX9_52 (c_X11_setCell l D A wl α (k + 1) 20 ((L_X9_takeOut_2 plc car bsk dyL rsn n).2.2.1) (nI n) 0 (hB0 1 _ rfl) (by first | assumption | exact vin_d (by decide) | exact vp_in_nI (by omega) (by decide) | decide | omega)) hK hP hD hE hS rfl rfl hl.1 (Nat.le_of_ble_eq_true rfl) rfl rfl ⟨(Nat.le_of_ble_eq_true rfl), (Nat.le_of_ble_eq_true rfl)⟩ ⟨(Nat.le_of_ble_eq_true rfl), (Nat.le_of_ble_eq_true rfl)⟩ dX9_takeOut_28) hS rfl (fun w5 H locs hQ hP hD hS => ?_)
        have hw := hQ
        have hF := Same.set hF 1 hw (by decide)
        have hB0 : Blk w5 k (cSticks D α k (f_X11_setCell 20 ((L_X9_takeOut_2 plc car bsk dyL rsn n).2.2.1) (nI n) 0) car bnd ((L_X9_takeOut_2 plc car bsk dyL rsn n).1) ((L_X9_takeOut_2 plc car bsk dyL rsn n).2.1) ((L_X9_takeOut_2 plc car bsk dyL rsn n).2.2.2)) := hB0.set 1 hw (Nat.le_of_ble_eq_true rfl) rfl
        refine lv_aload_n S.1 S.2.1 dX9_takeOut_31 rfl (lv_at hl 1 rfl) ?_
        refine g_get (v := .ref (α (k + 4))) S hK hP (hB0 0 _ rfl) rfl inX9 3 (by decide) qw147 rfl dX9_takeOut_32 ?_
        refine lv_iload_n S.1 S.2.1 dX9_takeOut_35 rfl (lv_at hl 0 rfl) ?_
        refine lv_bipush (v := (-2)) S.1 S.2.1 dX9_takeOut_36 (by decide) ?_
        refine g_aft0 (st1 := []) (g_SN (As := [.ref (α (k + 4)), .int (nI n), .int (-2)]) (rest := []) S ms_X11_setCell qn_RX9_52 (c_X11_setCell l D A w5 α (k + 4) 20 ((L_X9_takeOut_2 plc car bsk dyL rsn n).1) (nI n) (-2) (hB0 4 _ rfl) (by first | assumption | exact vin_d (by decide) | exact vp_in_nI (by omega) (by decide) | decide | omega)) hK hP hD hE hS rfl rfl hl.1 (Nat.le_of_ble_eq_true rfl) rfl rfl ⟨(Nat.le_of_ble_eq_true rfl), (Nat.le_of_ble_eq_true rfl)⟩ ⟨(Nat.le_of_ble_eq_true rfl), (Nat.le_of_ble_eq_true rfl)⟩ dX9_takeOut_38) hS rfl (fun w6 H locs hQ hP hD hS => ?_)
        have hw := hQ
        have hF := Same.set hF 4 hw (by decide)
        have hB0 : Blk w6 k (cSticks D α k (f_X11_setCell 20 ((L_X9_takeOut_2 plc car bsk dyL rsn n).2.2.1) (nI n) 0) car bnd (f_X11_setCell 20 ((L_X9_takeOut_2 plc car bsk dyL rsn n).1) (nI n) (-2)) ((L_X9_takeOut_2 plc car bsk dyL rsn n).2.1) ((L_X9_takeOut_2 plc car bsk dyL rsn n).2.2.2)) := hB0.set 4 hw (Nat.le_of_ble_eq_true rfl) rfl
        refine lv_aload_n S.1 S.2.1 dX9_takeOut_41 rfl (lv_at hl 1 rfl) ?_
        refine g_get (v := .ref (α (k + 5))) S hK hP (hB0 0 _ rfl) rfl inX9 4 (by decide) qw148 rfl dX9_takeOut_42 ?_
        refine lv_iload_n S.1 S.2.1 dX9_takeOut_45 rfl (lv_at hl 0 rfl) ?_
        refine lv_bipush (v := (-2)) S.1 S.2.1 dX9_takeOut_46 (by decide) ?_
        refine g_aft0 (st1 := []) (g_SN (As := [.ref (α (k + 5)), .int (nI n), .int (-2)]) (rest := []) S ms_X11_setCell qn_RX9_52 (c_X11_setCell l D A w6 α (k + 5) 20 ((L_X9_takeOut_2 plc car bsk dyL rsn n).2.1) (nI n) (-2) (hB0 5 _ rfl) (by first | assumption | exact vin_d (by decide) | exact vp_in_nI (by omega) (by decide) | decide | omega)) hK hP hD hE hS rfl rfl hl.1 (Nat.le_of_ble_eq_true rfl) rfl rfl ⟨(Nat.le_of_ble_eq_true rfl), (Nat.le_of_ble_eq_true rfl)⟩ ⟨(Nat.le_of_ble_eq_true rfl), (Nat.le_of_ble_eq_true rfl)⟩ dX9_takeOut_48) hS rfl (fun w7 H locs hQ hP hD hS => ?_)
        have hw := hQ
        have hF := Same.set hF 5 hw (by decide)
        have hB0 : Blk w7 k (cSticks D α k (f_X11_setCell 20 ((L_X9_takeOut_2 plc car bsk dyL rsn n).2.2.1) (nI n) 0) car bnd (f_X11_setCell 20 ((L_X9_takeOut_2 plc car bsk dyL rsn n).1) (nI n) (-2)) (f_X11_setCell 20 ((L_X9_takeOut_2 plc car bsk dyL rsn n).2.1) (nI n) (-2)) ((L_X9_takeOut_2 plc car bsk dyL rsn n).2.2.2)) := hB0.set 5 hw (Nat.le_of_ble_eq_true rfl) rfl
        refine lv_aload_n S.1 S.2.1 dX9_takeOut_51 rfl (lv_at hl 1 rfl) ?_
        refine g_get (v := .ref (α (k + 6))) S hK hP (hB0 0 _ rfl) rfl inX9 5 (by decide) qw149 rfl dX9_takeOut_52 ?_
        refine lv_iload_n S.1 S.2.1 dX9_takeOut_55 rfl (lv_at hl 0 rfl) ?_
        refine lv_iconst (v := 0) S.1 S.2.1 dX9_takeOut_56 (by decide) ?_
        refine g_aft0 (st1 := []) (g_SN (As := [.ref (α (k + 6)), .int (nI n), .int 0]) (rest := []) S ms_X11_setCell qn_RX9_52 (c_X11_setCell l D A w7 α (k + 6) 20 ((L_X9_takeOut_2 plc car bsk dyL rsn n).2.2.2) (nI n) 0 (hB0 6 _ rfl) (by first | assumption | exact vin_d (by decide) | exact vp_in_nI (by omega) (by decide) | decide | omega)) hK hP hD hE hS rfl rfl hl.1 (Nat.le_of_ble_eq_true rfl) rfl rfl ⟨(Nat.le_of_ble_eq_true rfl), (Nat.le_of_ble_eq_true rfl)⟩ ⟨(Nat.le_of_ble_eq_true rfl), (Nat.le_of_ble_eq_true rfl)⟩ dX9_takeOut_57) hS rfl (fun w8 H locs hQ hP hD hS => ?_)
        have hw := hQ
        have hF := Same.set hF 6 hw (by decide)
        have hB0 : Blk w8 k (cSticks D α k (f_X11_setCell 20 ((L_X9_takeOut_2 plc car bsk dyL rsn n).2.2.1) (nI n) 0) car bnd (f_X11_setCell 20 ((L_X9_takeOut_2 plc car bsk dyL rsn n).1) (nI n) (-2)) (f_X11_setCell 20 ((L_X9_takeOut_2 plc car bsk dyL rsn n).2.1) (nI n) (-2)) (f_X11_setCell 20 ((L_X9_takeOut_2 plc car bsk dyL rsn n).2.2.2) (nI n) 0)) := hB0.set 6 hw (Nat.le_of_ble_eq_true rfl) rfl
        refine lv_iinc (v := (nI (n + 1))) (lv' := [(1, .int (nI (n + 1))), (0, .ref (α (k)))]) S.1 S.2.1 dX9_takeOut_60 hl (k := 0) rfl ((nI_succ n).symm) (by decide) rfl (fun ls hl => ?_)
        refine lv_goto (tgt := 2) S.1 S.2.1 dX9_takeOut_63 (by decide) ?_
        have hL : (L_X9_takeOut_2 plc car bsk dyL rsn (n + 1)) = ((f_X11_setCell 20 ((L_X9_takeOut_2 plc car bsk dyL rsn n).1) (nI n) (-2)), (f_X11_setCell 20 ((L_X9_takeOut_2 plc car bsk dyL rsn n).2.1) (nI n) (-2)), (f_X11_setCell 20 ((L_X9_takeOut_2 plc car bsk dyL rsn n).2.2.1) (nI n) 0), (f_X11_setCell 20 ((L_X9_takeOut_2 plc car bsk dyL rsn n).2.2.2) (nI n) 0)) := (iter_s _ _ _).trans (if_pos c3)
        refine ih (n + 1) (by omega) _ _ _ _ hP hD hS hF ?_ ?_
        · rw [hL]; exact hB0
        · exact lv_sub hl [0, 1] rfl
  have hL0 : (L_X9_takeOut_2 plc car bsk dyL rsn 0) = (bsk, dyL, plc, rsn) := iter_z _ _
  exact lp2 20 0 (Nat.zero_add _) _ _ _ _ hP hD hS hF (by rw [hL0]; exact hB0) (lv_sub hl [0, 1] rfl)
def L_X9_maskIn_4 (plc : Nat → Int32) (bsk : Nat → Int32) (b : Int32) : Nat → Int32 := iter_ (fun n sn => (if (f_X9_placeOf plc (nI n)) = 2 then (if (f_X9_basketOf bsk (nI n)) = b then (sn ||| ((1 : Int32) <<< ((nI n) &&& 31))) else sn) else sn)) 0
def f_X9_maskIn (plc : Nat → Int32) (bsk : Nat → Int32) (b : Int32) : Int32 := (L_X9_maskIn_4 plc bsk b 20)
set_option maxHeartbeats 4000000 in
set_option maxRecDepth 100000 in
theorem c_X9_maskIn (l : Launch) (D : va_G) (A : Nat → Prop) (w : va_W) (α : Nat → Nat) (k : Nat) (plc : Nat → Int32) (car : Nat → Int32) (bnd : Nat → Int32) (bsk : Nat → Int32) (dyL : Nat → Int32) (rsn : Nat → Int32) (b : Int32) (hB0 : Blk w k (cSticks D α k plc car bnd bsk dyL rsn)) : Met l yX9_maskIn (ws_ yX9_maskIn cX9_maskIn 4 (some .int)) ({ frames := 2, cells := 0, slots := 0, locals := 43 }) (gPre D A [.ref (α (k)), .int b] w) (gR (some (.int (f_X9_maskIn plc bsk b)))) 0 0 A := by
  refine g_met [(0, .ref (α (k))), (1, .int b)] (plainFor_of_name (by decide)) (Nat.le_of_ble_eq_true rfl) rfl (fun pg en s mi ar below me co ls S hK hP hD hE hS hr hlk hnm hl => ?_)
  refine lv_iconst (v := 0) S.1 S.2.1 dX9_maskIn_0 (by decide) ?_
  refine lv_istore_n (lv' := [(2, .int 0), (0, .ref (α (k))), (1, .int b)]) S.1 S.2.1 dX9_maskIn_1 rfl hl (by decide) rfl (fun ls hl => ?_)
  refine lv_iconst (v := 0) S.1 S.2.1 dX9_maskIn_2 (by decide) ?_
  refine lv_istore_n (lv' := [(3, .int 0), (2, .int 0), (0, .ref (α (k))), (1, .int b)]) S.1 S.2.1 dX9_maskIn_3 rfl hl (by decide) rfl (fun ls hl => ?_)
  have lp4 : ∀ (j n : Nat), n + j = 20 → ∀ (locs : List Loc) (ls : Array Slot), va_S A s.heap s.heap locs → lv_has ls 4 [(3, .int (nI n)), (2, .int (L_X9_maskIn_4 plc bsk b n)), (0, .ref (α (k))), (1, .int b)] → W pg l en ({ frames := 2, cells := 0, slots := 0, locals := 43 } : Room) s mi ar below me co s.heap locs 0 0 (MQ below (gR (some (.int (f_X9_maskIn plc bsk b)))) ar s 0 0 A) (F0 mi 4 ls []) := by
    intro j
    induction j with
    | zero =>
      intro n hn locs ls hS hl
      have hn : 20 = n := hn.symm
      subst hn
      refine lv_iload_n S.1 S.2.1 dX9_maskIn_4 rfl (lv_at hl 0 rfl) ?_
      refine lv_bipush (v := 20) S.1 S.2.1 dX9_maskIn_5 (by decide) ?_
      refine lv_icmp_ge (tgt := 40) S.1 S.2.1 dX9_maskIn_7 (by decide) (fun (c1 : 20 ≤ (nI 20)) => ?_) (fun (c1 : ¬ 20 ≤ (nI 20)) => absurd c1 (lp_out (s := 0) (by decide)))
      refine lv_iload_n S.1 S.2.1 dX9_maskIn_40 rfl (lv_at hl 1 rfl) ?_
      have hf : (f_X9_maskIn plc bsk b) = (L_X9_maskIn_4 plc bsk b 20) := rfl
      exact g_iretR S hr hlk hS (by rw [hf] <;> rfl) dX9_maskIn_41
    | succ j ih =>
      intro n hn locs ls hS hl
      refine lv_iload_n S.1 S.2.1 dX9_maskIn_4 rfl (lv_at hl 0 rfl) ?_
      refine lv_bipush (v := 20) S.1 S.2.1 dX9_maskIn_5 (by decide) ?_
      refine lv_icmp_ge (tgt := 40) S.1 S.2.1 dX9_maskIn_7 (by decide) (fun (c2 : 20 ≤ (nI n)) => absurd c2 (lp_in (s := 0) (by decide) hn)) (fun (c2 : ¬ 20 ≤ (nI n)) => ?_)
      refine lv_aload_n S.1 S.2.1 dX9_maskIn_10 rfl (lv_at hl 2 rfl) ?_
      refine lv_iload_n S.1 S.2.1 dX9_maskIn_11 rfl (lv_at hl 0 rfl) ?_
      refine g_aftR0 (st1 := [.int (f_X9_placeOf plc (nI n))]) (g_V (As := [.int (nI n)]) (rest := []) S mi_X9_placeOf qw500 (c_X9_placeOf l D A w α (k) plc car bnd bsk dyL rsn (nI n) hB0) hK hP hD hE hS (hB0 0 _ rfl) rfl rfl rfl hl.1 (Nat.le_of_ble_eq_true rfl) rfl rfl ⟨(Nat.le_of_ble_eq_true rfl), (Nat.le_of_ble_eq_true rfl)⟩ ⟨(Nat.le_of_ble_eq_true rfl), (Nat.le_of_ble_eq_true rfl)⟩ dX9_maskIn_12) hS rfl (fun locs hS => ?_)
      refine lv_iconst (v := 2) S.1 S.2.1 dX9_maskIn_15 (by decide) ?_
      refine lv_icmp_ne (tgt := 34) S.1 S.2.1 dX9_maskIn_16 (by decide) (fun (c3 : ¬ (f_X9_placeOf plc (nI n)) = 2) => ?_) (fun (c3 : (f_X9_placeOf plc (nI n)) = 2) => ?_)
      · refine lv_iinc (v := (nI (n + 1))) (lv' := [(3, .int (nI (n + 1))), (2, .int (L_X9_maskIn_4 plc bsk b n)), (0, .ref (α (k))), (1, .int b)]) S.1 S.2.1 dX9_maskIn_34 hl (k := 0) rfl ((nI_succ n).symm) (by decide) rfl (fun ls hl => ?_)
        refine lv_goto (tgt := 4) S.1 S.2.1 dX9_maskIn_37 (by decide) ?_
        have hL : (L_X9_maskIn_4 plc bsk b (n + 1)) = (L_X9_maskIn_4 plc bsk b n) := (iter_s _ _ _).trans (if_neg c3)
        refine ih (n + 1) (by omega) _ _ hS ?_
        rw [hL]; exact lv_sub hl [0, 1, 2, 3] rfl
      · refine lv_aload_n S.1 S.2.1 dX9_maskIn_19 rfl (lv_at hl 2 rfl) ?_
        refine lv_iload_n S.1 S.2.1 dX9_maskIn_20 rfl (lv_at hl 0 rfl) ?_
        refine g_aftR0 (st1 := [.int (f_X9_basketOf bsk (nI n))]) (g_V (As := [.int (nI n)]) (rest := []) S mi_X9_basketOf qw1207 (c_X9_basketOf l D A w α (k) plc car bnd bsk dyL rsn (nI n) hB0) hK hP hD hE hS (hB0 0 _ rfl) rfl rfl rfl hl.1 (Nat.le_of_ble_eq_true rfl) rfl rfl ⟨(Nat.le_of_ble_eq_true rfl), (Nat.le_of_ble_eq_true rfl)⟩ ⟨(Nat.le_of_ble_eq_true rfl), (Nat.le_of_ble_eq_true rfl)⟩ dX9_maskIn_21) hS rfl (fun locs hS => ?_)
        refine lv_iload_n S.1 S.2.1 dX9_maskIn_24 rfl (lv_at hl 3 rfl) ?_
        refine lv_icmp_ne (tgt := 34) S.1 S.2.1 dX9_maskIn_25 (by decide) (fun (c4 : ¬ (f_X9_basketOf bsk (nI n)) = b) => ?_) (fun (c4 : (f_X9_basketOf bsk (nI n)) = b) => ?_)
        · refine lv_iinc (v := (nI (n + 1))) (lv' := [(3, .int (nI (n + 1))), (2, .int (L_X9_maskIn_4 plc bsk b n)), (0, .ref (α (k))), (1, .int b)]) S.1 S.2.1 dX9_maskIn_34 hl (k := 0) rfl ((nI_succ n).symm) (by decide) rfl (fun ls hl => ?_)
          refine lv_goto (tgt := 4) S.1 S.2.1 dX9_maskIn_37 (by decide) ?_
          have hL : (L_X9_maskIn_4 plc bsk b (n + 1)) = (L_X9_maskIn_4 plc bsk b n) := (iter_s _ _ _).trans ((if_pos c3).trans (if_neg c4))
          refine ih (n + 1) (by omega) _ _ hS ?_
          rw [hL]; exact lv_sub hl [0, 1, 2, 3] rfl
        · refine lv_iload_n S.1 S.2.1 dX9_maskIn_28 rfl (lv_at hl 1 rfl) ?_
          refine lv_iconst (v := 1) S.1 S.2.1 dX9_maskIn_29 (by decide) ?_
          refine lv_iload_n S.1 S.2.1 dX9_maskIn_30 rfl (lv_at hl 0 rfl) ?_
          refine lv_ishl S.1 S.2.1 dX9_maskIn_31 ?_
          refine lv_ior S.1 S.2.1 dX9_maskIn_32 ?_
          refine lv_istore_n (lv' := [(2, .int ((L_X9_maskIn_4 plc bsk b n) ||| ((1 : Int32) <<< ((nI n) &&& 31)))), (3, .int (nI n)), (0, .ref (α (k))), (1, .int b)]) S.1 S.2.1 dX9_maskIn_33 rfl hl (by decide) rfl (fun ls hl => ?_)
          refine lv_iinc (v := (nI (n + 1))) (lv' := [(3, .int (nI (n + 1))), (2, .int ((L_X9_maskIn_4 plc bsk b n) ||| ((1 : Int32) <<< ((nI n) &&& 31)))), (0, .ref (α (k))), (1, .int b)]) S.1 S.2.1 dX9_maskIn_34 hl (k := 1) rfl ((nI_succ n).symm) (by decide) rfl (fun ls hl => ?_)
          refine lv_goto (tgt := 4) S.1 S.2.1 dX9_maskIn_37 (by decide) ?_
          have hL : (L_X9_maskIn_4 plc bsk b (n + 1)) = ((L_X9_maskIn_4 plc bsk b n) ||| ((1 : Int32) <<< ((nI n) &&& 31))) := (iter_s _ _ _).trans ((if_pos c3).trans (if_pos c4))
          refine ih (n + 1) (by omega) _ _ hS ?_
          rw [hL]; exact lv_sub hl [0, 1, 2, 3] rfl
  have hL0 : (L_X9_maskIn_4 plc bsk b 0) = 0 := iter_z _ _
  exact lp4 20 0 (Nat.zero_add _) _ _ hS (by rw [hL0]; exact lv_sub hl [0, 1, 2, 3] rfl)
def f_X9_countIn (plc : Nat → Int32) (bsk : Nat → Int32) (b : Int32) : Int32 := (f_J6_bitCount_0f7a4 (f_X9_maskIn plc bsk b))
set_option maxHeartbeats 4000000 in
set_option maxRecDepth 100000 in
theorem c_X9_countIn (l : Launch) (D : va_G) (A : Nat → Prop) (w : va_W) (α : Nat → Nat) (k : Nat) (plc : Nat → Int32) (car : Nat → Int32) (bnd : Nat → Int32) (bsk : Nat → Int32) (dyL : Nat → Int32) (rsn : Nat → Int32) (b : Int32) (hB0 : Blk w k (cSticks D α k plc car bnd bsk dyL rsn)) : Met l yX9_countIn (ws_ yX9_countIn cX9_countIn 2 (some .int)) ({ frames := 3, cells := 0, slots := 0, locals := 66 }) (gPre D A [.ref (α (k)), .int b] w) (gR (some (.int (f_X9_countIn plc bsk b)))) 0 0 A := by
  refine g_met [(0, .ref (α (k))), (1, .int b)] (plainFor_of_name (by decide)) (Nat.le_of_ble_eq_true rfl) rfl (fun pg en s mi ar below me co ls S hK hP hD hE hS hr hlk hnm hl => ?_)
  refine lv_aload_n S.1 S.2.1 dX9_countIn_0 rfl (lv_at hl 0 rfl) ?_
  refine lv_iload_n S.1 S.2.1 dX9_countIn_1 rfl (lv_at hl 1 rfl) ?_
  refine g_aftR0 (st1 := [.int (f_X9_maskIn plc bsk b)]) (g_V (As := [.int b]) (rest := []) S mi_X9_maskIn qw1203 (c_X9_maskIn l D A w α (k) plc car bnd bsk dyL rsn b hB0) hK hP hD hE hS (hB0 0 _ rfl) rfl rfl rfl hl.1 (Nat.le_of_ble_eq_true rfl) rfl rfl ⟨(Nat.le_of_ble_eq_true rfl), (Nat.le_of_ble_eq_true rfl)⟩ ⟨(Nat.le_of_ble_eq_true rfl), (Nat.le_of_ble_eq_true rfl)⟩ dX9_countIn_2) hS rfl (fun locs hS => ?_)
  refine g_aftR0 (st1 := [.int (f_J6_bitCount_0f7a4 (f_X9_maskIn plc bsk b))]) (g_St (As := [.int (f_X9_maskIn plc bsk b)]) (rest := []) S ms_J6_bitCount_0f7a4 qw1208 (c_J6_bitCount_0f7a4 l D A w α (f_X9_maskIn plc bsk b)) hK hP hD hE hS rfl rfl hl.1 (Nat.le_of_ble_eq_true rfl) rfl rfl ⟨(Nat.le_of_ble_eq_true rfl), (Nat.le_of_ble_eq_true rfl)⟩ ⟨(Nat.le_of_ble_eq_true rfl), (Nat.le_of_ble_eq_true rfl)⟩ dX9_countIn_5) hS rfl (fun locs hS => ?_)
  have hf : (f_X9_countIn plc bsk b) = (f_J6_bitCount_0f7a4 (f_X9_maskIn plc bsk b)) := rfl
  exact g_iretR S hr hlk hS (by rw [hf] <;> rfl) dX9_countIn_8
def L_X9_countAt_4 (plc : Nat → Int32) (b : Int32) : Nat → Int32 := iter_ (fun n sn => (if (f_X9_placeOf plc (nI n)) = b then (sn + 1) else sn)) 0
def f_X9_countAt (plc : Nat → Int32) (b : Int32) : Int32 := (L_X9_countAt_4 plc b 20)
set_option maxHeartbeats 4000000 in
set_option maxRecDepth 100000 in
theorem c_X9_countAt (l : Launch) (D : va_G) (A : Nat → Prop) (w : va_W) (α : Nat → Nat) (k : Nat) (plc : Nat → Int32) (car : Nat → Int32) (bnd : Nat → Int32) (bsk : Nat → Int32) (dyL : Nat → Int32) (rsn : Nat → Int32) (b : Int32) (hB0 : Blk w k (cSticks D α k plc car bnd bsk dyL rsn)) : Met l yX9_countAt (ws_ yX9_countAt cX9_countAt 4 (some .int)) ({ frames := 2, cells := 0, slots := 0, locals := 43 }) (gPre D A [.ref (α (k)), .int b] w) (gR (some (.int (f_X9_countAt plc b)))) 0 0 A := by
  refine g_met [(0, .ref (α (k))), (1, .int b)] (plainFor_of_name (by decide)) (Nat.le_of_ble_eq_true rfl) rfl (fun pg en s mi ar below me co ls S hK hP hD hE hS hr hlk hnm hl => ?_)
  refine lv_iconst (v := 0) S.1 S.2.1 dX9_countAt_0 (by decide) ?_
  refine lv_istore_n (lv' := [(2, .int 0), (0, .ref (α (k))), (1, .int b)]) S.1 S.2.1 dX9_countAt_1 rfl hl (by decide) rfl (fun ls hl => ?_)
  refine lv_iconst (v := 0) S.1 S.2.1 dX9_countAt_2 (by decide) ?_
  refine lv_istore_n (lv' := [(3, .int 0), (2, .int 0), (0, .ref (α (k))), (1, .int b)]) S.1 S.2.1 dX9_countAt_3 rfl hl (by decide) rfl (fun ls hl => ?_)
  have lp4 : ∀ (j n : Nat), n + j = 20 → ∀ (locs : List Loc) (ls : Array Slot), va_S A s.heap s.heap locs → lv_has ls 4 [(3, .int (nI n)), (2, .int (L_X9_countAt_4 plc b n)), (0, .ref (α (k))), (1, .int b)] → W pg l en ({ frames := 2, cells := 0, slots := 0, locals := 43 } : Room) s mi ar below me co s.heap locs 0 0 (MQ below (gR (some (.int (f_X9_countAt plc b)))) ar s 0 0 A) (F0 mi 4 ls []) := by
    intro j
    induction j with
    | zero =>
      intro n hn locs ls hS hl
      have hn : 20 = n := hn.symm
      subst hn
      refine lv_iload_n S.1 S.2.1 dX9_countAt_4 rfl (lv_at hl 0 rfl) ?_
      refine lv_bipush (v := 20) S.1 S.2.1 dX9_countAt_5 (by decide) ?_
      refine lv_icmp_ge (tgt := 28) S.1 S.2.1 dX9_countAt_7 (by decide) (fun (c1 : 20 ≤ (nI 20)) => ?_) (fun (c1 : ¬ 20 ≤ (nI 20)) => absurd c1 (lp_out (s := 0) (by decide)))
      refine lv_iload_n S.1 S.2.1 dX9_countAt_28 rfl (lv_at hl 1 rfl) ?_
      have hf : (f_X9_countAt plc b) = (L_X9_countAt_4 plc b 20) := rfl
      exact g_iretR S hr hlk hS (by rw [hf] <;> rfl) dX9_countAt_29
    | succ j ih =>
      intro n hn locs ls hS hl
      refine lv_iload_n S.1 S.2.1 dX9_countAt_4 rfl (lv_at hl 0 rfl) ?_
      refine lv_bipush (v := 20) S.1 S.2.1 dX9_countAt_5 (by decide) ?_
      refine lv_icmp_ge (tgt := 28) S.1 S.2.1 dX9_countAt_7 (by decide) (fun (c2 : 20 ≤ (nI n)) => absurd c2 (lp_in (s := 0) (by decide) hn)) (fun (c2 : ¬ 20 ≤ (nI n)) => ?_)
      refine lv_aload_n S.1 S.2.1 dX9_countAt_10 rfl (lv_at hl 2 rfl) ?_
      refine lv_iload_n S.1 S.2.1 dX9_countAt_11 rfl (lv_at hl 0 rfl) ?_
      refine g_aftR0 (st1 := [.int (f_X9_placeOf plc (nI n))]) (g_V (As := [.int (nI n)]) (rest := []) S mi_X9_placeOf qw500 (c_X9_placeOf l D A w α (k) plc car bnd bsk dyL rsn (nI n) hB0) hK hP hD hE hS (hB0 0 _ rfl) rfl rfl rfl hl.1 (Nat.le_of_ble_eq_true rfl) rfl rfl ⟨(Nat.le_of_ble_eq_true rfl), (Nat.le_of_ble_eq_true rfl)⟩ ⟨(Nat.le_of_ble_eq_true rfl), (Nat.le_of_ble_eq_true rfl)⟩ dX9_countAt_12) hS rfl (fun locs hS => ?_)
      refine lv_iload_n S.1 S.2.1 dX9_countAt_15 rfl (lv_at hl 3 rfl) ?_
      refine lv_icmp_ne (tgt := 22) S.1 S.2.1 dX9_countAt_16 (by decide) (fun (c3 : ¬ (f_X9_placeOf plc (nI n)) = b) => ?_) (fun (c3 : (f_X9_placeOf plc (nI n)) = b) => ?_)
      · refine lv_iinc (v := (nI (n + 1))) (lv' := [(3, .int (nI (n + 1))), (2, .int (L_X9_countAt_4 plc b n)), (0, .ref (α (k))), (1, .int b)]) S.1 S.2.1 dX9_countAt_22 hl (k := 0) rfl ((nI_succ n).symm) (by decide) rfl (fun ls hl => ?_)
        refine lv_goto (tgt := 4) S.1 S.2.1 dX9_countAt_25 (by decide) ?_
        have hL : (L_X9_countAt_4 plc b (n + 1)) = (L_X9_countAt_4 plc b n) := (iter_s _ _ _).trans (if_neg c3)
        refine ih (n + 1) (by omega) _ _ hS ?_
        rw [hL]; exact lv_sub hl [0, 1, 2, 3] rfl
      · refine lv_iinc (v := ((L_X9_countAt_4 plc b n) + 1)) (lv' := [(2, .int ((L_X9_countAt_4 plc b n) + 1)), (3, .int (nI n)), (0, .ref (α (k))), (1, .int b)]) S.1 S.2.1 dX9_countAt_19 hl (k := 1) rfl (rfl) (by decide) rfl (fun ls hl => ?_)
        refine lv_iinc (v := (nI (n + 1))) (lv' := [(3, .int (nI (n + 1))), (2, .int ((L_X9_countAt_4 plc b n) + 1)), (0, .ref (α (k))), (1, .int b)]) S.1 S.2.1 dX9_countAt_22 hl (k := 1) rfl ((nI_succ n).symm) (by decide) rfl (fun ls hl => ?_)
        refine lv_goto (tgt := 4) S.1 S.2.1 dX9_countAt_25 (by decide) ?_
        have hL : (L_X9_countAt_4 plc b (n + 1)) = ((L_X9_countAt_4 plc b n) + 1) := (iter_s _ _ _).trans (if_pos c3)
        refine ih (n + 1) (by omega) _ _ hS ?_
        rw [hL]; exact lv_sub hl [0, 1, 2, 3] rfl
  have hL0 : (L_X9_countAt_4 plc b 0) = 0 := iter_z _ _
  exact lp4 20 0 (Nat.zero_add _) _ _ hS (by rw [hL0]; exact lv_sub hl [0, 1, 2, 3] rfl)
def f_X9_turnout (plc : Nat → Int32) : Int32 := (f_X9_countAt plc 2)
set_option maxHeartbeats 4000000 in
set_option maxRecDepth 100000 in
theorem c_X9_turnout (l : Launch) (D : va_G) (A : Nat → Prop) (w : va_W) (α : Nat → Nat) (k : Nat) (plc : Nat → Int32) (car : Nat → Int32) (bnd : Nat → Int32) (bsk : Nat → Int32) (dyL : Nat → Int32) (rsn : Nat → Int32) (hB0 : Blk w k (cSticks D α k plc car bnd bsk dyL rsn)) : Met l yX9_turnout (ws_ yX9_turnout cX9_turnout 1 (some .int)) ({ frames := 3, cells := 0, slots := 0, locals := 66 }) (gPre D A [.ref (α (k))] w) (gR (some (.int (f_X9_turnout plc)))) 0 0 A := by
  refine g_met [(0, .ref (α (k)))] (plainFor_of_name (by decide)) (Nat.le_of_ble_eq_true rfl) rfl (fun pg en s mi ar below me co ls S hK hP hD hE hS hr hlk hnm hl => ?_)
  refine lv_aload_n S.1 S.2.1 dX9_turnout_0 rfl (lv_at hl 0 rfl) ?_
  refine lv_iconst (v := 2) S.1 S.2.1 dX9_turnout_1 (by decide) ?_
  refine g_aftR0 (st1 := [.int (f_X9_countAt plc 2)]) (g_V (As := [.int 2]) (rest := []) S mi_X9_countAt qw771 (c_X9_countAt l D A w α (k) plc car bnd bsk dyL rsn 2 hB0) hK hP hD hE hS (hB0 0 _ rfl) rfl rfl rfl hl.1 (Nat.le_of_ble_eq_true rfl) rfl rfl ⟨(Nat.le_of_ble_eq_true rfl), (Nat.le_of_ble_eq_true rfl)⟩ ⟨(Nat.le_of_ble_eq_true rfl), (Nat.le_of_ble_eq_true rfl)⟩ dX9_turnout_2) hS rfl (fun locs hS => ?_)
  have hf : (f_X9_turnout plc) = (f_X9_countAt plc 2) := rfl
  exact g_iretR S hr hlk hS (by rw [hf] <;> rfl) dX9_turnout_5
def f_X9_struckOnes (plc : Nat → Int32) : Int32 := (f_X9_countAt plc 3)
set_option maxHeartbeats 4000000 in
set_option maxRecDepth 100000 in
theorem c_X9_struckOnes (l : Launch) (D : va_G) (A : Nat → Prop) (w : va_W) (α : Nat → Nat) (k : Nat) (plc : Nat → Int32) (car : Nat → Int32) (bnd : Nat → Int32) (bsk : Nat → Int32) (dyL : Nat → Int32) (rsn : Nat → Int32) (hB0 : Blk w k (cSticks D α k plc car bnd bsk dyL rsn)) : Met l yX9_struckOnes (ws_ yX9_struckOnes cX9_struckOnes 1 (some .int)) ({ frames := 3, cells := 0, slots := 0, locals := 66 }) (gPre D A [.ref (α (k))] w) (gR (some (.int (f_X9_struckOnes plc)))) 0 0 A := by
  refine g_met [(0, .ref (α (k)))] (plainFor_of_name (by decide)) (Nat.le_of_ble_eq_true rfl) rfl (fun pg en s mi ar below me co ls S hK hP hD hE hS hr hlk hnm hl => ?_)
  refine lv_aload_n S.1 S.2.1 dX9_struckOnes_0 rfl (lv_at hl 0 rfl) ?_
  refine lv_iconst (v := 3) S.1 S.2.1 dX9_struckOnes_1 (by decide) ?_
  refine g_aftR0 (st1 := [.int (f_X9_countAt plc 3)]) (g_V (As := [.int 3]) (rest := []) S mi_X9_countAt qw771 (c_X9_countAt l D A w α (k) plc car bnd bsk dyL rsn 3 hB0) hK hP hD hE hS (hB0 0 _ rfl) rfl rfl rfl hl.1 (Nat.le_of_ble_eq_true rfl) rfl rfl ⟨(Nat.le_of_ble_eq_true rfl), (Nat.le_of_ble_eq_true rfl)⟩ ⟨(Nat.le_of_ble_eq_true rfl), (Nat.le_of_ble_eq_true rfl)⟩ dX9_struckOnes_2) hS rfl (fun locs hS => ?_)
  have hf : (f_X9_struckOnes plc) = (f_X9_countAt plc 3) := rfl
  exact g_iretR S hr hlk hS (by rw [hf] <;> rfl) dX9_struckOnes_5
def L_X9_laidForOthers_4 (plc : Nat → Int32) (car : Nat → Int32) (p : Int32) : Nat → Int32 := iter_ (fun n sn => (if (f_X9_placeOf plc (nI n)) = 2 then (if (f_X9_carrierOf car (nI n)) = p then (sn + 1) else sn) else (if (f_X9_placeOf plc (nI n)) = 3 then (if (f_X9_carrierOf car (nI n)) = p then (sn + 1) else sn) else sn))) 0
def f_X9_laidForOthers (plc : Nat → Int32) (car : Nat → Int32) (p : Int32) : Int32 := (L_X9_laidForOthers_4 plc car p 20)
set_option maxHeartbeats 4000000 in
set_option maxRecDepth 100000 in
theorem c_X9_laidForOthers (l : Launch) (D : va_G) (A : Nat → Prop) (w : va_W) (α : Nat → Nat) (k : Nat) (plc : Nat → Int32) (car : Nat → Int32) (bnd : Nat → Int32) (bsk : Nat → Int32) (dyL : Nat → Int32) (rsn : Nat → Int32) (p : Int32) (hB0 : Blk w k (cSticks D α k plc car bnd bsk dyL rsn)) : Met l yX9_laidForOthers (ws_ yX9_laidForOthers cX9_laidForOthers 5 (some .int)) ({ frames := 2, cells := 0, slots := 0, locals := 43 }) (gPre D A [.ref (α (k)), .int p] w) (gR (some (.int (f_X9_laidForOthers plc car p)))) 0 0 A := by
  refine g_met [(0, .ref (α (k))), (1, .int p)] (plainFor_of_name (by decide)) (Nat.le_of_ble_eq_true rfl) rfl (fun pg en s mi ar below me co ls S hK hP hD hE hS hr hlk hnm hl => ?_)
  refine lv_iconst (v := 0) S.1 S.2.1 dX9_laidForOthers_0 (by decide) ?_
  refine lv_istore_n (lv' := [(2, .int 0), (0, .ref (α (k))), (1, .int p)]) S.1 S.2.1 dX9_laidForOthers_1 rfl hl (by decide) rfl (fun ls hl => ?_)
  refine lv_iconst (v := 0) S.1 S.2.1 dX9_laidForOthers_2 (by decide) ?_
  refine lv_istore_n (lv' := [(3, .int 0), (2, .int 0), (0, .ref (α (k))), (1, .int p)]) S.1 S.2.1 dX9_laidForOthers_3 rfl hl (by decide) rfl (fun ls hl => ?_)
  have lp4 : ∀ (j n : Nat), n + j = 20 → ∀ (locs : List Loc) (ls : Array Slot), va_S A s.heap s.heap locs → lv_has ls 5 [(3, .int (nI n)), (2, .int (L_X9_laidForOthers_4 plc car p n)), (0, .ref (α (k))), (1, .int p)] → W pg l en ({ frames := 2, cells := 0, slots := 0, locals := 43 } : Room) s mi ar below me co s.heap locs 0 0 (MQ below (gR (some (.int (f_X9_laidForOthers plc car p)))) ar s 0 0 A) (F0 mi 4 ls []) := by
    intro j
    induction j with
    | zero =>
      intro n hn locs ls hS hl
      have hn : 20 = n := hn.symm
      subst hn
      refine lv_iload_n S.1 S.2.1 dX9_laidForOthers_4 rfl (lv_at hl 0 rfl) ?_
      refine lv_bipush (v := 20) S.1 S.2.1 dX9_laidForOthers_5 (by decide) ?_
      refine lv_icmp_ge (tgt := 58) S.1 S.2.1 dX9_laidForOthers_7 (by decide) (fun (c1 : 20 ≤ (nI 20)) => ?_) (fun (c1 : ¬ 20 ≤ (nI 20)) => absurd c1 (lp_out (s := 0) (by decide)))
      refine lv_iload_n S.1 S.2.1 dX9_laidForOthers_58 rfl (lv_at hl 1 rfl) ?_
      have hf : (f_X9_laidForOthers plc car p) = (L_X9_laidForOthers_4 plc car p 20) := rfl
      exact g_iretR S hr hlk hS (by rw [hf] <;> rfl) dX9_laidForOthers_59
    | succ j ih =>
      intro n hn locs ls hS hl
      refine lv_iload_n S.1 S.2.1 dX9_laidForOthers_4 rfl (lv_at hl 0 rfl) ?_
      refine lv_bipush (v := 20) S.1 S.2.1 dX9_laidForOthers_5 (by decide) ?_
      refine lv_icmp_ge (tgt := 58) S.1 S.2.1 dX9_laidForOthers_7 (by decide) (fun (c2 : 20 ≤ (nI n)) => absurd c2 (lp_in (s := 0) (by decide) hn)) (fun (c2 : ¬ 20 ≤ (nI n)) => ?_)
      refine lv_aload_n S.1 S.2.1 dX9_laidForOthers_10 rfl (lv_at hl 2 rfl) ?_
      refine lv_iload_n S.1 S.2.1 dX9_laidForOthers_11 rfl (lv_at hl 0 rfl) ?_
      refine g_aftR0 (st1 := [.int (f_X9_placeOf plc (nI n))]) (g_V (As := [.int (nI n)]) (rest := []) S mi_X9_placeOf qw500 (c_X9_placeOf l D A w α (k) plc car bnd bsk dyL rsn (nI n) hB0) hK hP hD hE hS (hB0 0 _ rfl) rfl rfl rfl hl.1 (Nat.le_of_ble_eq_true rfl) rfl rfl ⟨(Nat.le_of_ble_eq_true rfl), (Nat.le_of_ble_eq_true rfl)⟩ ⟨(Nat.le_of_ble_eq_true rfl), (Nat.le_of_ble_eq_true rfl)⟩ dX9_laidForOthers_12) hS rfl (fun locs hS => ?_)
      refine lv_iconst (v := 2) S.1 S.2.1 dX9_laidForOthers_15 (by decide) ?_
      refine lv_icmp_eq (tgt := 28) S.1 S.2.1 dX9_laidForOthers_16 (by decide) (fun (c3 : (f_X9_placeOf plc (nI n)) = 2) => ?_) (fun (c3 : ¬ (f_X9_placeOf plc (nI n)) = 2) => ?_)
      · refine lv_iconst (v := 1) S.1 S.2.1 dX9_laidForOthers_28 (by decide) ?_
        refine lv_goto (tgt := 33) S.1 S.2.1 dX9_laidForOthers_29 (by decide) ?_
        refine lv_istore (lv' := [(4, .int 1), (3, .int (nI n)), (2, .int (L_X9_laidForOthers_4 plc car p n)), (0, .ref (α (k))), (1, .int p)]) S.1 S.2.1 dX9_laidForOthers_33 hl (by decide) rfl (fun ls hl => ?_)
        refine lv_iload S.1 S.2.1 dX9_laidForOthers_35 (lv_at hl 0 rfl) ?_
        refine lv_if_eq (tgt := 52) S.1 S.2.1 dX9_laidForOthers_37 (by decide) (fun c4 => absurd c4 (by decide)) (fun _ => ?_)
        refine lv_aload_n S.1 S.2.1 dX9_laidForOthers_40 rfl (lv_at hl 3 rfl) ?_
        refine lv_iload_n S.1 S.2.1 dX9_laidForOthers_41 rfl (lv_at hl 1 rfl) ?_
        refine g_aftR0 (st1 := [.int (f_X9_carrierOf car (nI n))]) (g_V (As := [.int (nI n)]) (rest := []) S mi_X9_carrierOf qw440 (c_X9_carrierOf l D A w α (k) plc car bnd bsk dyL rsn (nI n) hB0) hK hP hD hE hS (hB0 0 _ rfl) rfl rfl rfl hl.1 (Nat.le_of_ble_eq_true rfl) rfl rfl ⟨(Nat.le_of_ble_eq_true rfl), (Nat.le_of_ble_eq_true rfl)⟩ ⟨(Nat.le_of_ble_eq_true rfl), (Nat.le_of_ble_eq_true rfl)⟩ dX9_laidForOthers_42) hS rfl (fun locs hS => ?_)
        refine lv_iload_n S.1 S.2.1 dX9_laidForOthers_45 rfl (lv_at hl 4 rfl) ?_
        refine lv_icmp_ne (tgt := 52) S.1 S.2.1 dX9_laidForOthers_46 (by decide) (fun (c5 : ¬ (f_X9_carrierOf car (nI n)) = p) => ?_) (fun (c5 : (f_X9_carrierOf car (nI n)) = p) => ?_)
        · refine lv_iinc (v := (nI (n + 1))) (lv' := [(3, .int (nI (n + 1))), (4, .int 1), (2, .int (L_X9_laidForOthers_4 plc car p n)), (0, .ref (α (k))), (1, .int p)]) S.1 S.2.1 dX9_laidForOthers_52 hl (k := 1) rfl ((nI_succ n).symm) (by decide) rfl (fun ls hl => ?_)
          refine lv_goto (tgt := 4) S.1 S.2.1 dX9_laidForOthers_55 (by decide) ?_
          have hL : (L_X9_laidForOthers_4 plc car p (n + 1)) = (L_X9_laidForOthers_4 plc car p n) := (iter_s _ _ _).trans ((if_pos c3).trans (if_neg c5))
          refine ih (n + 1) (by omega) _ _ hS ?_
          rw [hL]; exact lv_sub hl [0, 2, 3, 4] rfl
        · refine lv_iinc (v := ((L_X9_laidForOthers_4 plc car p n) + 1)) (lv' := [(2, .int ((L_X9_laidForOthers_4 plc car p n) + 1)), (4, .int 1), (3, .int (nI n)), (0, .ref (α (k))), (1, .int p)]) S.1 S.2.1 dX9_laidForOthers_49 hl (k := 2) rfl (rfl) (by decide) rfl (fun ls hl => ?_)
          refine lv_iinc (v := (nI (n + 1))) (lv' := [(3, .int (nI (n + 1))), (2, .int ((L_X9_laidForOthers_4 plc car p n) + 1)), (4, .int 1), (0, .ref (α (k))), (1, .int p)]) S.1 S.2.1 dX9_laidForOthers_52 hl (k := 2) rfl ((nI_succ n).symm) (by decide) rfl (fun ls hl => ?_)
          refine lv_goto (tgt := 4) S.1 S.2.1 dX9_laidForOthers_55 (by decide) ?_
          have hL : (L_X9_laidForOthers_4 plc car p (n + 1)) = ((L_X9_laidForOthers_4 plc car p n) + 1) := (iter_s _ _ _).trans ((if_pos c3).trans (if_pos c5))
          refine ih (n + 1) (by omega) _ _ hS ?_
          rw [hL]; exact lv_sub hl [0, 1, 3, 4] rfl
      · refine lv_aload_n S.1 S.2.1 dX9_laidForOthers_19 rfl (lv_at hl 2 rfl) ?_
        refine lv_iload_n S.1 S.2.1 dX9_laidForOthers_20 rfl (lv_at hl 0 rfl) ?_
        refine g_aftR0 (st1 := [.int (f_X9_placeOf plc (nI n))]) (g_V (As := [.int (nI n)]) (rest := []) S mi_X9_placeOf qw500 (c_X9_placeOf l D A w α (k) plc car bnd bsk dyL rsn (nI n) hB0) hK hP hD hE hS (hB0 0 _ rfl) rfl rfl rfl hl.1 (Nat.le_of_ble_eq_true rfl) rfl rfl ⟨(Nat.le_of_ble_eq_true rfl), (Nat.le_of_ble_eq_true rfl)⟩ ⟨(Nat.le_of_ble_eq_true rfl), (Nat.le_of_ble_eq_true rfl)⟩ dX9_laidForOthers_21) hS rfl (fun locs hS => ?_)
        refine lv_iconst (v := 3) S.1 S.2.1 dX9_laidForOthers_24 (by decide) ?_
        refine lv_icmp_ne (tgt := 32) S.1 S.2.1 dX9_laidForOthers_25 (by decide) (fun (c6 : ¬ (f_X9_placeOf plc (nI n)) = 3) => ?_) (fun (c6 : (f_X9_placeOf plc (nI n)) = 3) => ?_)
        · refine lv_iconst (v := 0) S.1 S.2.1 dX9_laidForOthers_32 (by decide) ?_
          refine lv_istore (lv' := [(4, .int 0), (3, .int (nI n)), (2, .int (L_X9_laidForOthers_4 plc car p n)), (0, .ref (α (k))), (1, .int p)]) S.1 S.2.1 dX9_laidForOthers_33 hl (by decide) rfl (fun ls hl => ?_)
          refine lv_iload S.1 S.2.1 dX9_laidForOthers_35 (lv_at hl 0 rfl) ?_
          refine lv_if_eq (tgt := 52) S.1 S.2.1 dX9_laidForOthers_37 (by decide) (fun _ => ?_) (fun c7 => absurd c7 (by decide))
          refine lv_iinc (v := (nI (n + 1))) (lv' := [(3, .int (nI (n + 1))), (4, .int 0), (2, .int (L_X9_laidForOthers_4 plc car p n)), (0, .ref (α (k))), (1, .int p)]) S.1 S.2.1 dX9_laidForOthers_52 hl (k := 1) rfl ((nI_succ n).symm) (by decide) rfl (fun ls hl => ?_)
          refine lv_goto (tgt := 4) S.1 S.2.1 dX9_laidForOthers_55 (by decide) ?_
          have hL : (L_X9_laidForOthers_4 plc car p (n + 1)) = (L_X9_laidForOthers_4 plc car p n) := (iter_s _ _ _).trans ((if_neg c3).trans (if_neg c6))
          refine ih (n + 1) (by omega) _ _ hS ?_
          rw [hL]; exact lv_sub hl [0, 2, 3, 4] rfl
        · refine lv_iconst (v := 1) S.1 S.2.1 dX9_laidForOthers_28 (by decide) ?_
          refine lv_goto (tgt := 33) S.1 S.2.1 dX9_laidForOthers_29 (by decide) ?_
          refine lv_istore (lv' := [(4, .int 1), (3, .int (nI n)), (2, .int (L_X9_laidForOthers_4 plc car p n)), (0, .ref (α (k))), (1, .int p)]) S.1 S.2.1 dX9_laidForOthers_33 hl (by decide) rfl (fun ls hl => ?_)
          refine lv_iload S.1 S.2.1 dX9_laidForOthers_35 (lv_at hl 0 rfl) ?_
          refine lv_if_eq (tgt := 52) S.1 S.2.1 dX9_laidForOthers_37 (by decide) (fun c8 => absurd c8 (by decide)) (fun _ => ?_)
          refine lv_aload_n S.1 S.2.1 dX9_laidForOthers_40 rfl (lv_at hl 3 rfl) ?_
          refine lv_iload_n S.1 S.2.1 dX9_laidForOthers_41 rfl (lv_at hl 1 rfl) ?_
          refine g_aftR0 (st1 := [.int (f_X9_carrierOf car (nI n))]) (g_V (As := [.int (nI n)]) (rest := []) S mi_X9_carrierOf qw440 (c_X9_carrierOf l D A w α (k) plc car bnd bsk dyL rsn (nI n) hB0) hK hP hD hE hS (hB0 0 _ rfl) rfl rfl rfl hl.1 (Nat.le_of_ble_eq_true rfl) rfl rfl ⟨(Nat.le_of_ble_eq_true rfl), (Nat.le_of_ble_eq_true rfl)⟩ ⟨(Nat.le_of_ble_eq_true rfl), (Nat.le_of_ble_eq_true rfl)⟩ dX9_laidForOthers_42) hS rfl (fun locs hS => ?_)
          refine lv_iload_n S.1 S.2.1 dX9_laidForOthers_45 rfl (lv_at hl 4 rfl) ?_
          refine lv_icmp_ne (tgt := 52) S.1 S.2.1 dX9_laidForOthers_46 (by decide) (fun (c9 : ¬ (f_X9_carrierOf car (nI n)) = p) => ?_) (fun (c9 : (f_X9_carrierOf car (nI n)) = p) => ?_)
          · refine lv_iinc (v := (nI (n + 1))) (lv' := [(3, .int (nI (n + 1))), (4, .int 1), (2, .int (L_X9_laidForOthers_4 plc car p n)), (0, .ref (α (k))), (1, .int p)]) S.1 S.2.1 dX9_laidForOthers_52 hl (k := 1) rfl ((nI_succ n).symm) (by decide) rfl (fun ls hl => ?_)
            refine lv_goto (tgt := 4) S.1 S.2.1 dX9_laidForOthers_55 (by decide) ?_
            have hL : (L_X9_laidForOthers_4 plc car p (n + 1)) = (L_X9_laidForOthers_4 plc car p n) := (iter_s _ _ _).trans ((if_neg c3).trans ((if_pos c6).trans (if_neg c9)))
            refine ih (n + 1) (by omega) _ _ hS ?_
            rw [hL]; exact lv_sub hl [0, 2, 3, 4] rfl
          · refine lv_iinc (v := ((L_X9_laidForOthers_4 plc car p n) + 1)) (lv' := [(2, .int ((L_X9_laidForOthers_4 plc car p n) + 1)), (4, .int 1), (3, .int (nI n)), (0, .ref (α (k))), (1, .int p)]) S.1 S.2.1 dX9_laidForOthers_49 hl (k := 2) rfl (rfl) (by decide) rfl (fun ls hl => ?_)
            refine lv_iinc (v := (nI (n + 1))) (lv' := [(3, .int (nI (n + 1))), (2, .int ((L_X9_laidForOthers_4 plc car p n) + 1)), (4, .int 1), (0, .ref (α (k))), (1, .int p)]) S.1 S.2.1 dX9_laidForOthers_52 hl (k := 2) rfl ((nI_succ n).symm) (by decide) rfl (fun ls hl => ?_)
            refine lv_goto (tgt := 4) S.1 S.2.1 dX9_laidForOthers_55 (by decide) ?_
            have hL : (L_X9_laidForOthers_4 plc car p (n + 1)) = ((L_X9_laidForOthers_4 plc car p n) + 1) := (iter_s _ _ _).trans ((if_neg c3).trans ((if_pos c6).trans (if_pos c9)))
            refine ih (n + 1) (by omega) _ _ hS ?_
            rw [hL]; exact lv_sub hl [0, 1, 3, 4] rfl
  have hL0 : (L_X9_laidForOthers_4 plc car p 0) = 0 := iter_z _ _
  exact lp4 20 0 (Nat.zero_add _) _ _ hS (by rw [hL0]; exact lv_sub hl [0, 1, 2, 3] rfl)
def L_X9_carriedBy_4 (plc : Nat → Int32) (car : Nat → Int32) (p : Int32) : Nat → Int32 := iter_ (fun n sn => (if (f_X9_placeOf plc (nI n)) = 1 then (if (f_X9_carrierOf car (nI n)) = p then (sn ||| ((1 : Int32) <<< ((nI n) &&& 31))) else sn) else sn)) 0
def f_X9_carriedBy (plc : Nat → Int32) (car : Nat → Int32) (p : Int32) : Int32 := (L_X9_carriedBy_4 plc car p 20)
set_option maxHeartbeats 4000000 in
set_option maxRecDepth 100000 in
theorem c_X9_carriedBy (l : Launch) (D : va_G) (A : Nat → Prop) (w : va_W) (α : Nat → Nat) (k : Nat) (plc : Nat → Int32) (car : Nat → Int32) (bnd : Nat → Int32) (bsk : Nat → Int32) (dyL : Nat → Int32) (rsn : Nat → Int32) (p : Int32) (hB0 : Blk w k (cSticks D α k plc car bnd bsk dyL rsn)) : Met l yX9_carriedBy (ws_ yX9_carriedBy cX9_carriedBy 4 (some .int)) ({ frames := 2, cells := 0, slots := 0, locals := 43 }) (gPre D A [.ref (α (k)), .int p] w) (gR (some (.int (f_X9_carriedBy plc car p)))) 0 0 A := by
  refine g_met [(0, .ref (α (k))), (1, .int p)] (plainFor_of_name (by decide)) (Nat.le_of_ble_eq_true rfl) rfl (fun pg en s mi ar below me co ls S hK hP hD hE hS hr hlk hnm hl => ?_)
  refine lv_iconst (v := 0) S.1 S.2.1 dX9_carriedBy_0 (by decide) ?_
  refine lv_istore_n (lv' := [(2, .int 0), (0, .ref (α (k))), (1, .int p)]) S.1 S.2.1 dX9_carriedBy_1 rfl hl (by decide) rfl (fun ls hl => ?_)
  refine lv_iconst (v := 0) S.1 S.2.1 dX9_carriedBy_2 (by decide) ?_
  refine lv_istore_n (lv' := [(3, .int 0), (2, .int 0), (0, .ref (α (k))), (1, .int p)]) S.1 S.2.1 dX9_carriedBy_3 rfl hl (by decide) rfl (fun ls hl => ?_)
  have lp4 : ∀ (j n : Nat), n + j = 20 → ∀ (locs : List Loc) (ls : Array Slot), va_S A s.heap s.heap locs → lv_has ls 4 [(3, .int (nI n)), (2, .int (L_X9_carriedBy_4 plc car p n)), (0, .ref (α (k))), (1, .int p)] → W pg l en ({ frames := 2, cells := 0, slots := 0, locals := 43 } : Room) s mi ar below me co s.heap locs 0 0 (MQ below (gR (some (.int (f_X9_carriedBy plc car p)))) ar s 0 0 A) (F0 mi 4 ls []) := by
    intro j
    induction j with
    | zero =>
      intro n hn locs ls hS hl
      have hn : 20 = n := hn.symm
      subst hn
      refine lv_iload_n S.1 S.2.1 dX9_carriedBy_4 rfl (lv_at hl 0 rfl) ?_
      refine lv_bipush (v := 20) S.1 S.2.1 dX9_carriedBy_5 (by decide) ?_
      refine lv_icmp_ge (tgt := 40) S.1 S.2.1 dX9_carriedBy_7 (by decide) (fun (c1 : 20 ≤ (nI 20)) => ?_) (fun (c1 : ¬ 20 ≤ (nI 20)) => absurd c1 (lp_out (s := 0) (by decide)))
      refine lv_iload_n S.1 S.2.1 dX9_carriedBy_40 rfl (lv_at hl 1 rfl) ?_
      have hf : (f_X9_carriedBy plc car p) = (L_X9_carriedBy_4 plc car p 20) := rfl
      exact g_iretR S hr hlk hS (by rw [hf] <;> rfl) dX9_carriedBy_41
    | succ j ih =>
      intro n hn locs ls hS hl
      refine lv_iload_n S.1 S.2.1 dX9_carriedBy_4 rfl (lv_at hl 0 rfl) ?_
      refine lv_bipush (v := 20) S.1 S.2.1 dX9_carriedBy_5 (by decide) ?_
      refine lv_icmp_ge (tgt := 40) S.1 S.2.1 dX9_carriedBy_7 (by decide) (fun (c2 : 20 ≤ (nI n)) => absurd c2 (lp_in (s := 0) (by decide) hn)) (fun (c2 : ¬ 20 ≤ (nI n)) => ?_)
      refine lv_aload_n S.1 S.2.1 dX9_carriedBy_10 rfl (lv_at hl 2 rfl) ?_
      refine lv_iload_n S.1 S.2.1 dX9_carriedBy_11 rfl (lv_at hl 0 rfl) ?_
      refine g_aftR0 (st1 := [.int (f_X9_placeOf plc (nI n))]) (g_V (As := [.int (nI n)]) (rest := []) S mi_X9_placeOf qw500 (c_X9_placeOf l D A w α (k) plc car bnd bsk dyL rsn (nI n) hB0) hK hP hD hE hS (hB0 0 _ rfl) rfl rfl rfl hl.1 (Nat.le_of_ble_eq_true rfl) rfl rfl ⟨(Nat.le_of_ble_eq_true rfl), (Nat.le_of_ble_eq_true rfl)⟩ ⟨(Nat.le_of_ble_eq_true rfl), (Nat.le_of_ble_eq_true rfl)⟩ dX9_carriedBy_12) hS rfl (fun locs hS => ?_)
      refine lv_iconst (v := 1) S.1 S.2.1 dX9_carriedBy_15 (by decide) ?_
      refine lv_icmp_ne (tgt := 34) S.1 S.2.1 dX9_carriedBy_16 (by decide) (fun (c3 : ¬ (f_X9_placeOf plc (nI n)) = 1) => ?_) (fun (c3 : (f_X9_placeOf plc (nI n)) = 1) => ?_)
      · refine lv_iinc (v := (nI (n + 1))) (lv' := [(3, .int (nI (n + 1))), (2, .int (L_X9_carriedBy_4 plc car p n)), (0, .ref (α (k))), (1, .int p)]) S.1 S.2.1 dX9_carriedBy_34 hl (k := 0) rfl ((nI_succ n).symm) (by decide) rfl (fun ls hl => ?_)
        refine lv_goto (tgt := 4) S.1 S.2.1 dX9_carriedBy_37 (by decide) ?_
        have hL : (L_X9_carriedBy_4 plc car p (n + 1)) = (L_X9_carriedBy_4 plc car p n) := (iter_s _ _ _).trans (if_neg c3)
        refine ih (n + 1) (by omega) _ _ hS ?_
        rw [hL]; exact lv_sub hl [0, 1, 2, 3] rfl
      · refine lv_aload_n S.1 S.2.1 dX9_carriedBy_19 rfl (lv_at hl 2 rfl) ?_
        refine lv_iload_n S.1 S.2.1 dX9_carriedBy_20 rfl (lv_at hl 0 rfl) ?_
        refine g_aftR0 (st1 := [.int (f_X9_carrierOf car (nI n))]) (g_V (As := [.int (nI n)]) (rest := []) S mi_X9_carrierOf qw440 (c_X9_carrierOf l D A w α (k) plc car bnd bsk dyL rsn (nI n) hB0) hK hP hD hE hS (hB0 0 _ rfl) rfl rfl rfl hl.1 (Nat.le_of_ble_eq_true rfl) rfl rfl ⟨(Nat.le_of_ble_eq_true rfl), (Nat.le_of_ble_eq_true rfl)⟩ ⟨(Nat.le_of_ble_eq_true rfl), (Nat.le_of_ble_eq_true rfl)⟩ dX9_carriedBy_21) hS rfl (fun locs hS => ?_)
        refine lv_iload_n S.1 S.2.1 dX9_carriedBy_24 rfl (lv_at hl 3 rfl) ?_
        refine lv_icmp_ne (tgt := 34) S.1 S.2.1 dX9_carriedBy_25 (by decide) (fun (c4 : ¬ (f_X9_carrierOf car (nI n)) = p) => ?_) (fun (c4 : (f_X9_carrierOf car (nI n)) = p) => ?_)
        · refine lv_iinc (v := (nI (n + 1))) (lv' := [(3, .int (nI (n + 1))), (2, .int (L_X9_carriedBy_4 plc car p n)), (0, .ref (α (k))), (1, .int p)]) S.1 S.2.1 dX9_carriedBy_34 hl (k := 0) rfl ((nI_succ n).symm) (by decide) rfl (fun ls hl => ?_)
          refine lv_goto (tgt := 4) S.1 S.2.1 dX9_carriedBy_37 (by decide) ?_
          have hL : (L_X9_carriedBy_4 plc car p (n + 1)) = (L_X9_carriedBy_4 plc car p n) := (iter_s _ _ _).trans ((if_pos c3).trans (if_neg c4))
          refine ih (n + 1) (by omega) _ _ hS ?_
          rw [hL]; exact lv_sub hl [0, 1, 2, 3] rfl
        · refine lv_iload_n S.1 S.2.1 dX9_carriedBy_28 rfl (lv_at hl 1 rfl) ?_
          refine lv_iconst (v := 1) S.1 S.2.1 dX9_carriedBy_29 (by decide) ?_
          refine lv_iload_n S.1 S.2.1 dX9_carriedBy_30 rfl (lv_at hl 0 rfl) ?_
          refine lv_ishl S.1 S.2.1 dX9_carriedBy_31 ?_
          refine lv_ior S.1 S.2.1 dX9_carriedBy_32 ?_
          refine lv_istore_n (lv' := [(2, .int ((L_X9_carriedBy_4 plc car p n) ||| ((1 : Int32) <<< ((nI n) &&& 31)))), (3, .int (nI n)), (0, .ref (α (k))), (1, .int p)]) S.1 S.2.1 dX9_carriedBy_33 rfl hl (by decide) rfl (fun ls hl => ?_)
          refine lv_iinc (v := (nI (n + 1))) (lv' := [(3, .int (nI (n + 1))), (2, .int ((L_X9_carriedBy_4 plc car p n) ||| ((1 : Int32) <<< ((nI n) &&& 31)))), (0, .ref (α (k))), (1, .int p)]) S.1 S.2.1 dX9_carriedBy_34 hl (k := 1) rfl ((nI_succ n).symm) (by decide) rfl (fun ls hl => ?_)
          refine lv_goto (tgt := 4) S.1 S.2.1 dX9_carriedBy_37 (by decide) ?_
          have hL : (L_X9_carriedBy_4 plc car p (n + 1)) = ((L_X9_carriedBy_4 plc car p n) ||| ((1 : Int32) <<< ((nI n) &&& 31))) := (iter_s _ _ _).trans ((if_pos c3).trans (if_pos c4))
          refine ih (n + 1) (by omega) _ _ hS ?_
          rw [hL]; exact lv_sub hl [0, 1, 2, 3] rfl
  have hL0 : (L_X9_carriedBy_4 plc car p 0) = 0 := iter_z _ _
  exact lp4 20 0 (Nat.zero_add _) _ _ hS (by rw [hL0]; exact lv_sub hl [0, 1, 2, 3] rfl)
def L_X9_wrongMask_4 (plc : Nat → Int32) (rsn : Nat → Int32) : Nat → Int32 := iter_ (fun n sn => (bif (f_X9_isWrong plc rsn (nI n)) then (sn ||| ((1 : Int32) <<< ((nI n) &&& 31))) else sn)) 0
def f_X9_wrongMask (plc : Nat → Int32) (rsn : Nat → Int32) : Int32 := (L_X9_wrongMask_4 plc rsn 20)
set_option maxHeartbeats 4000000 in
set_option maxRecDepth 100000 in
theorem c_X9_wrongMask (l : Launch) (D : va_G) (A : Nat → Prop) (w : va_W) (α : Nat → Nat) (k : Nat) (plc : Nat → Int32) (car : Nat → Int32) (bnd : Nat → Int32) (bsk : Nat → Int32) (dyL : Nat → Int32) (rsn : Nat → Int32) (hB0 : Blk w k (cSticks D α k plc car bnd bsk dyL rsn)) : Met l yX9_wrongMask (ws_ yX9_wrongMask cX9_wrongMask 3 (some .int)) ({ frames := 3, cells := 0, slots := 0, locals := 64 }) (gPre D A [.ref (α (k))] w) (gR (some (.int (f_X9_wrongMask plc rsn)))) 0 0 A := by
  refine g_met [(0, .ref (α (k)))] (plainFor_of_name (by decide)) (Nat.le_of_ble_eq_true rfl) rfl (fun pg en s mi ar below me co ls S hK hP hD hE hS hr hlk hnm hl => ?_)
  refine lv_iconst (v := 0) S.1 S.2.1 dX9_wrongMask_0 (by decide) ?_
  refine lv_istore_n (lv' := [(1, .int 0), (0, .ref (α (k)))]) S.1 S.2.1 dX9_wrongMask_1 rfl hl (by decide) rfl (fun ls hl => ?_)
  refine lv_iconst (v := 0) S.1 S.2.1 dX9_wrongMask_2 (by decide) ?_
  refine lv_istore_n (lv' := [(2, .int 0), (1, .int 0), (0, .ref (α (k)))]) S.1 S.2.1 dX9_wrongMask_3 rfl hl (by decide) rfl (fun ls hl => ?_)
  have lp4 : ∀ (j n : Nat), n + j = 20 → ∀ (locs : List Loc) (ls : Array Slot), va_S A s.heap s.heap locs → lv_has ls 3 [(2, .int (nI n)), (1, .int (L_X9_wrongMask_4 plc rsn n)), (0, .ref (α (k)))] → W pg l en ({ frames := 3, cells := 0, slots := 0, locals := 64 } : Room) s mi ar below me co s.heap locs 0 0 (MQ below (gR (some (.int (f_X9_wrongMask plc rsn)))) ar s 0 0 A) (F0 mi 4 ls []) := by
    intro j
    induction j with
    | zero =>
      intro n hn locs ls hS hl
      have hn : 20 = n := hn.symm
      subst hn
      refine lv_iload_n S.1 S.2.1 dX9_wrongMask_4 rfl (lv_at hl 0 rfl) ?_
      refine lv_bipush (v := 20) S.1 S.2.1 dX9_wrongMask_5 (by decide) ?_
      refine lv_icmp_ge (tgt := 30) S.1 S.2.1 dX9_wrongMask_7 (by decide) (fun (c1 : 20 ≤ (nI 20)) => ?_) (fun (c1 : ¬ 20 ≤ (nI 20)) => absurd c1 (lp_out (s := 0) (by decide)))
      refine lv_iload_n S.1 S.2.1 dX9_wrongMask_30 rfl (lv_at hl 1 rfl) ?_
      have hf : (f_X9_wrongMask plc rsn) = (L_X9_wrongMask_4 plc rsn 20) := rfl
      exact g_iretR S hr hlk hS (by rw [hf] <;> rfl) dX9_wrongMask_31
    | succ j ih =>
      intro n hn locs ls hS hl
      refine lv_iload_n S.1 S.2.1 dX9_wrongMask_4 rfl (lv_at hl 0 rfl) ?_
      refine lv_bipush (v := 20) S.1 S.2.1 dX9_wrongMask_5 (by decide) ?_
      refine lv_icmp_ge (tgt := 30) S.1 S.2.1 dX9_wrongMask_7 (by decide) (fun (c2 : 20 ≤ (nI n)) => absurd c2 (lp_in (s := 0) (by decide) hn)) (fun (c2 : ¬ 20 ≤ (nI n)) => ?_)
      refine lv_aload_n S.1 S.2.1 dX9_wrongMask_10 rfl (lv_at hl 2 rfl) ?_
      refine lv_iload_n S.1 S.2.1 dX9_wrongMask_11 rfl (lv_at hl 0 rfl) ?_
      refine g_aftR0 (st1 := [.int (b2i (f_X9_isWrong plc rsn (nI n)))]) (g_V (As := [.int (nI n)]) (rest := []) S mi_X9_isWrong qw825 (c_X9_isWrong l D A w α (k) plc car bnd bsk dyL rsn (nI n) hB0) hK hP hD hE hS (hB0 0 _ rfl) rfl rfl rfl hl.1 (Nat.le_of_ble_eq_true rfl) rfl rfl ⟨(Nat.le_of_ble_eq_true rfl), (Nat.le_of_ble_eq_true rfl)⟩ ⟨(Nat.le_of_ble_eq_true rfl), (Nat.le_of_ble_eq_true rfl)⟩ dX9_wrongMask_12) hS rfl (fun locs hS => ?_)
      refine g_bifeq (b := (f_X9_isWrong plc rsn (nI n))) (tgt := 24) S dX9_wrongMask_15 (by decide) (fun (c3 : (f_X9_isWrong plc rsn (nI n)) = false) => ?_) (fun (c3 : (f_X9_isWrong plc rsn (nI n)) = true) => ?_)
      · refine lv_iinc (v := (nI (n + 1))) (lv' := [(2, .int (nI (n + 1))), (1, .int (L_X9_wrongMask_4 plc rsn n)), (0, .ref (α (k)))]) S.1 S.2.1 dX9_wrongMask_24 hl (k := 0) rfl ((nI_succ n).symm) (by decide) rfl (fun ls hl => ?_)
        refine lv_goto (tgt := 4) S.1 S.2.1 dX9_wrongMask_27 (by decide) ?_
        have hL : (L_X9_wrongMask_4 plc rsn (n + 1)) = (L_X9_wrongMask_4 plc rsn n) := (iter_s _ _ _).trans (cd_f c3)
        refine ih (n + 1) (by omega) _ _ hS ?_
        rw [hL]; exact lv_sub hl [0, 1, 2] rfl
      · refine lv_iload_n S.1 S.2.1 dX9_wrongMask_18 rfl (lv_at hl 1 rfl) ?_
        refine lv_iconst (v := 1) S.1 S.2.1 dX9_wrongMask_19 (by decide) ?_
        refine lv_iload_n S.1 S.2.1 dX9_wrongMask_20 rfl (lv_at hl 0 rfl) ?_
        refine lv_ishl S.1 S.2.1 dX9_wrongMask_21 ?_
        refine lv_ior S.1 S.2.1 dX9_wrongMask_22 ?_
        refine lv_istore_n (lv' := [(1, .int ((L_X9_wrongMask_4 plc rsn n) ||| ((1 : Int32) <<< ((nI n) &&& 31)))), (2, .int (nI n)), (0, .ref (α (k)))]) S.1 S.2.1 dX9_wrongMask_23 rfl hl (by decide) rfl (fun ls hl => ?_)
        refine lv_iinc (v := (nI (n + 1))) (lv' := [(2, .int (nI (n + 1))), (1, .int ((L_X9_wrongMask_4 plc rsn n) ||| ((1 : Int32) <<< ((nI n) &&& 31)))), (0, .ref (α (k)))]) S.1 S.2.1 dX9_wrongMask_24 hl (k := 1) rfl ((nI_succ n).symm) (by decide) rfl (fun ls hl => ?_)
        refine lv_goto (tgt := 4) S.1 S.2.1 dX9_wrongMask_27 (by decide) ?_
        have hL : (L_X9_wrongMask_4 plc rsn (n + 1)) = ((L_X9_wrongMask_4 plc rsn n) ||| ((1 : Int32) <<< ((nI n) &&& 31))) := (iter_s _ _ _).trans (cd_t c3)
        refine ih (n + 1) (by omega) _ _ hS ?_
        rw [hL]; exact lv_sub hl [0, 1, 2] rfl
  have hL0 : (L_X9_wrongMask_4 plc rsn 0) = 0 := iter_z _ _
  exact lp4 20 0 (Nat.zero_add _) _ _ hS (by rw [hL0]; exact lv_sub hl [0, 1, 2] rfl)
