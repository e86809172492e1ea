noncomputable def S_X6_writeStick_26 (tx : Nat → Int32) (txl : Int32) (plc : Nat → Int32) (o : Int32) : (Nat → Int32) × Int32 := (f_X1_addText 2048 tx txl (f_X6_placeWord (f_X9_placeOf plc o)))
noncomputable def S_X6_writeStick_42 (tx : Nat → Int32) (txl : Int32) (plc : Nat → Int32) (o : Int32) : (Nat → Int32) × Int32 := (f_X1_add 2048 ((S_X6_writeStick_26 tx txl plc o).1) ((S_X6_writeStick_26 tx txl plc o).2) 32)
noncomputable def S_X6_writeStick_55 (tx : Nat → Int32) (txl : Int32) (pNames : Nat → Int32) (plc : Nat → Int32) (car : Nat → Int32) (o : Int32) : (Nat → Int32) × Int32 := (f_X1_addName 2048 ((S_X6_writeStick_42 tx txl plc o).1) ((S_X6_writeStick_42 tx txl plc o).2) (f_X7_personName pNames (f_X9_carrierOf car o)))
noncomputable def J_X6_writeStick_33 (tx : Nat → Int32) (txl : Int32) (pNames : Nat → Int32) (plc : Nat → Int32) (car : Nat → Int32) (o : Int32) : (Nat → Int32) × Int32 := (if (f_X9_carrierOf car o) = (-2) then ((S_X6_writeStick_26 tx txl plc o).1, (S_X6_writeStick_26 tx txl plc o).2) else ((S_X6_writeStick_55 tx txl pNames plc car o).1, (S_X6_writeStick_55 tx txl pNames plc car o).2))
noncomputable def S_X6_writeStick_68 (tx : Nat → Int32) (txl : Int32) (pNames : Nat → Int32) (plc : Nat → Int32) (car : Nat → Int32) (bsk : Nat → Int32) (o : Int32) : (Nat → Int32) × Int32 := (f_X6_writeNumber ((J_X6_writeStick_33 tx txl pNames plc car o).1) ((J_X6_writeStick_33 tx txl pNames plc car o).2) (f_X9_basketOf bsk o))
noncomputable def f_X6_writeStick (tx : Nat → Int32) (txl : Int32) (pNames : Nat → Int32) (plc : Nat → Int32) (car : Nat → Int32) (bsk : Nat → Int32) (o : Int32) : (Nat → Int32) × Int32 := (if (f_X9_basketOf bsk o) = (-2) then ((J_X6_writeStick_33 tx txl pNames plc car o).1, (J_X6_writeStick_33 tx txl pNames plc car o).2) else ((S_X6_writeStick_68 tx txl pNames plc car bsk o).1, (S_X6_writeStick_68 tx txl pNames plc car bsk o).2))
set_option maxHeartbeats 4000000 in
set_option maxRecDepth 100000 in
theorem c_X6_writeStick (l : Launch) (D : va_G) (A : Nat → Prop) (w : va_W) (α : Nat → Nat) (k : Nat) (tx : Nat → Int32) (txl : Int32) (k2 : Nat) (nums : Nat → Int32) (bNames : Nat → Int32) (pNames : Nat → Int32) (fBoats : Nat → Int32) (nB : Int32) (nP : Int32) (k3 : Nat) (plc : Nat → Int32) (car : Nat → Int32) (bnd : Nat → Int32) (bsk : Nat → Int32) (dyL : Nat → Int32) (rsn : Nat → Int32) (o : Int32) (hB0 : Blk w k (cScribe D α k tx txl)) (hB1 : Blk w k2 (cSetup D α k2 nums bNames pNames fBoats nB nP)) (hB2 : Blk w k3 (cSticks D α k3 plc car bnd bsk dyL rsn)) (hd1 : k2 + 5 ≤ k ∨ k + 3 ≤ k2) (hd2 : k3 + 7 ≤ k ∨ k + 3 ≤ k3) : Met l yX6_writeStick (ws_ yX6_writeStick cX6_writeStick 6 none) ({ frames := 5, cells := 0, slots := 0, locals := 107 }) (gPre D A [.ref (α (k)), .ref (α (k2)), .ref (α (k3)), .int o] w) (gQ D A none (fun w1 => Blk w1 k (cScribe D α k ((f_X6_writeStick tx txl pNames plc car bsk o).1) ((f_X6_writeStick tx txl pNames plc car bsk o).2)) ∧ Same w w1 k 3)) 0 0 A := by
  refine g_met [(0, .ref (α (k))), (1, .ref (α (k2))), (2, .ref (α (k3))), (3, .int o)] (plainFor_of_name (by decide)) (Nat.le_of_ble_eq_true rfl) rfl (fun pg en s mi ar below me co ls S hK hP hD hE hS hr hlk hnm hl => ?_)
  have hF : Same w w k 3 := Same.rf
  refine lv_aload_n S.1 S.2.1 dX6_writeStick_0 rfl (lv_at hl 2 rfl) ?_
  refine lv_iload_n S.1 S.2.1 dX6_writeStick_1 rfl (lv_at hl 3 rfl) ?_
  refine g_aftR0 (st1 := [.int (f_X9_carrierOf car o)]) (g_V (As := [.int o]) (rest := []) S mi_X9_carrierOf qw1427 (c_X9_carrierOf l D A w α (k3) plc car bnd bsk dyL rsn o hB2) hK hP hD hE hS (hB2 0 _ rfl) rfl rfl rfl hl.1 (Nat.le_of_ble_eq_true rfl) rfl rfl ⟨(Nat.le_of_ble_eq_true rfl), (Nat.le_of_ble_eq_true rfl)⟩ ⟨(Nat.le_of_ble_eq_true rfl), (Nat.le_of_ble_eq_true rfl)⟩ dX6_writeStick_2) hS rfl (fun locs hS => ?_)
  refine lv_istore (lv' := [(4, .int (f_X9_carrierOf car o)), (0, .ref (α (k))), (1, .ref (α (k2))), (2, .ref (α (k3))), (3, .int o)]) S.1 S.2.1 dX6_writeStick_5 hl (by decide) rfl (fun ls hl => ?_)
  refine lv_aload_n S.1 S.2.1 dX6_writeStick_7 rfl (lv_at hl 3 rfl) ?_
  refine lv_iload_n S.1 S.2.1 dX6_writeStick_8 rfl (lv_at hl 4 rfl) ?_
  refine g_aftR0 (st1 := [.int (f_X9_basketOf bsk o)]) (g_V (As := [.int o]) (rest := []) S mi_X9_basketOf qw1428 (c_X9_basketOf l D A w α (k3) plc car bnd bsk dyL rsn o hB2) hK hP hD hE hS (hB2 0 _ rfl) rfl rfl rfl hl.1 (Nat.le_of_ble_eq_true rfl) rfl rfl ⟨(Nat.le_of_ble_eq_true rfl), (Nat.le_of_ble_eq_true rfl)⟩ ⟨(Nat.le_of_ble_eq_true rfl), (Nat.le_of_ble_eq_true rfl)⟩ dX6_writeStick_9) hS rfl (fun locs hS => ?_)
  refine lv_istore (lv' := [(5, .int (f_X9_basketOf bsk o)), (4, .int (f_X9_carrierOf car o)), (0, .ref (α (k))), (1, .ref (α (k2))), (2, .ref (α (k3))), (3, .int o)]) S.1 S.2.1 dX6_writeStick_12 hl (by decide) rfl (fun ls hl => ?_)
  refine lv_aload_n S.1 S.2.1 dX6_writeStick_14 rfl (lv_at hl 2 rfl) ?_
  refine g_get (v := .ref (α (k + 1))) S hK hP (hB0 0 _ rfl) rfl inX6 0 (by decide) qw293 rfl dX6_writeStick_15 ?_
  refine lv_aload_n S.1 S.2.1 dX6_writeStick_18 rfl (lv_at hl 4 rfl) ?_
  refine lv_iload_n S.1 S.2.1 dX6_writeStick_19 rfl (lv_at hl 5 rfl) ?_
  refine g_aftR0 (st1 := [.int (f_X9_placeOf plc o), .ref (α (k + 1))]) (g_V (As := [.int o]) (rest := [.ref (α (k + 1))]) S mi_X9_placeOf qw1429 (c_X9_placeOf l D A w α (k3) plc car bnd bsk dyL rsn o hB2) hK hP hD hE hS (hB2 0 _ rfl) rfl rfl rfl hl.1 (Nat.le_of_ble_eq_true rfl) rfl rfl ⟨(Nat.le_of_ble_eq_true rfl), (Nat.le_of_ble_eq_true rfl)⟩ ⟨(Nat.le_of_ble_eq_true rfl), (Nat.le_of_ble_eq_true rfl)⟩ dX6_writeStick_20) hS rfl (fun locs hS => ?_)
  refine g_aftR0 (st1 := [.ref (D.2 200 (f_X6_placeWord (f_X9_placeOf plc o))), .ref (α (k + 1))]) (g_St (As := [.int (f_X9_placeOf plc o)]) (rest := [.ref (α (k + 1))]) S ms_X6_placeWord qw1430 (c_X6_placeWord l D A w α (f_X9_placeOf plc o)) hK hP hD hE hS rfl rfl hl.1 (Nat.le_of_ble_eq_true rfl) rfl rfl ⟨(Nat.le_of_ble_eq_true rfl), (Nat.le_of_ble_eq_true rfl)⟩ ⟨(Nat.le_of_ble_eq_true rfl), (Nat.le_of_ble_eq_true rfl)⟩ dX6_writeStick_23) hS rfl (fun locs hS => ?_)
  have hNm : (f_X1_addText 2048 tx txl (f_X6_placeWord (f_X9_placeOf plc o))) = (S_X6_writeStick_26 tx txl plc o) := rfl
  have hCon := (c_X1_addText l D A w α (k + 1) 2048 tx txl (f_X6_placeWord (f_X9_placeOf plc o)) (hB0.sub 1 rfl) (Nat.le_of_ble_eq_true rfl) (placeWord_lt _))
  rw [hNm] at hCon
  refine g_aft0 (st1 := []) (g_V (As := [.ref (D.2 200 (f_X6_placeWord (f_X9_placeOf plc o)))]) (rest := []) S mi_X1_addText qw1437 hCon hK hP hD hE hS (hB0 1 _ rfl) rfl rfl rfl hl.1 (Nat.le_of_ble_eq_true rfl) rfl rfl ⟨(Nat.le_of_ble_eq_true rfl), (Nat.le_of_ble_eq_true rfl)⟩ ⟨(Nat.le_of_ble_eq_true rfl), (Nat.le_of_ble_eq_true rfl)⟩ dX6_writeStick_26) hS rfl (fun w1 H locs hQ hP hD hS => ?_)
  have hF := hF.call 1 hQ.2 (by decide)
  have hB0 : Blk w1 k (cScribe D α k ((S_X6_writeStick_26 tx txl plc o).1) ((S_X6_writeStick_26 tx txl plc o).2)) := hB0.splice 1 hQ.1 hQ.2 rfl (Nat.le_of_ble_eq_true rfl)
  refine lv_iload S.1 S.2.1 dX6_writeStick_29 (lv_at hl 1 rfl) ?_
  refine lv_bipush (v := (-2)) S.1 S.2.1 dX6_writeStick_31 (by decide) ?_
  have jn33 : ∀ (wl : va_W) (H : Heap) (locs : List Loc) (ls : Array Slot), va_P D vwCl wl H → va_D A wl → va_S A s.heap H locs → Same w wl k 3 → Blk wl k (cScribe D α k ((J_X6_writeStick_33 tx txl pNames plc car o).1) ((J_X6_writeStick_33 tx txl pNames plc car o).2)) → lv_has ls 6 [(5, .int (f_X9_basketOf bsk o)), (4, .int (f_X9_carrierOf car o)), (0, .ref (α (k))), (1, .ref (α (k2))), (2, .ref (α (k3))), (3, .int o)] → W pg l en ({ frames := 5, cells := 0, slots := 0, locals := 107 } : Room) s mi ar below me co H locs 0 0 (MQ below (gQ D A none (fun w1 => Blk w1 k (cScribe D α k ((f_X6_writeStick tx txl pNames plc car bsk o).1) ((f_X6_writeStick tx txl pNames plc car bsk o).2)) ∧ Same w w1 k 3)) ar s 0 0 A) (F0 mi 58 ls []) := by
    intro wl H locs ls hP hD hS hF hB0 hl
    refine lv_iload S.1 S.2.1 dX6_writeStick_58 (lv_at hl 0 rfl) ?_
    refine lv_bipush (v := (-2)) S.1 S.2.1 dX6_writeStick_60 (by decide) ?_
    refine lv_icmp_eq (tgt := 71) S.1 S.2.1 dX6_writeStick_62 (by decide) (fun (c2 : (f_X9_basketOf bsk o) = (-2)) => ?_) (fun (c2 : ¬ (f_X9_basketOf bsk o) = (-2)) => ?_)
    · have hf : (f_X6_writeStick tx txl pNames plc car bsk o) = ((J_X6_writeStick_33 tx txl pNames plc car o).1, (J_X6_writeStick_33 tx txl pNames plc car o).2) := if_pos c2
      exact g_vret S hr hlk hP hD hS (rfl) (⟨by rw [hf]; dsimp only; exact hB0, hF⟩) dX6_writeStick_71
    · refine lv_aload_n S.1 S.2.1 dX6_writeStick_65 rfl (lv_at hl 2 rfl) ?_
      refine lv_iload S.1 S.2.1 dX6_writeStick_66 (lv_at hl 0 rfl) ?_
      have hNm : (f_X6_writeNumber ((J_X6_writeStick_33 tx txl pNames plc car o).1) ((J_X6_writeStick_33 tx txl pNames plc car o).2) (f_X9_basketOf bsk o)) = (S_X6_writeStick_68 tx txl pNames plc car bsk o) := rfl
      have hCon := (c_X6_writeNumber l D A wl α (k) ((J_X6_writeStick_33 tx txl pNames plc car o).1) ((J_X6_writeStick_33 tx txl pNames plc car o).2) (f_X9_basketOf bsk o) hB0)
      rw [hNm] at hCon
      refine g_aft0 (st1 := []) (g_V (As := [.int (f_X9_basketOf bsk o)]) (rest := []) S mi_X6_writeNumber qw1443 hCon hK hP hD hE hS (hB0 0 _ rfl) rfl rfl rfl hl.1 (Nat.le_of_ble_eq_true rfl) rfl rfl ⟨(Nat.le_of_ble_eq_true rfl), (Nat.le_of_ble_eq_true rfl)⟩ ⟨(Nat.le_of_ble_eq_true rfl), (Nat.le_of_ble_eq_true rfl)⟩ dX6_writeStick_68) hS rfl (fun w4 H locs hQ hP hD hS => ?_)
      have hF := hF.trans hQ.2
      have hB0 : Blk w4 k (cScribe D α k ((S_X6_writeStick_68 tx txl pNames plc car bsk o).1) ((S_X6_writeStick_68 tx txl pNames plc car bsk o).2)) := hQ.1
      have hf : (f_X6_writeStick tx txl pNames plc car bsk o) = ((S_X6_writeStick_68 tx txl pNames plc car bsk o).1, (S_X6_writeStick_68 tx txl pNames plc car bsk o).2) := if_neg c2
      exact g_vret S hr hlk hP hD hS (rfl) (⟨by rw [hf]; dsimp only; exact hB0, hF⟩) dX6_writeStick_71
  refine lv_icmp_eq (tgt := 58) S.1 S.2.1 dX6_writeStick_33 (by decide) (fun (c1 : (f_X9_carrierOf car o) = (-2)) => ?_) (fun (c1 : ¬ (f_X9_carrierOf car o) = (-2)) => ?_)
  · skip
    have hJ : (J_X6_writeStick_33 tx txl pNames plc car o) = ((S_X6_writeStick_26 tx txl plc o).1, (S_X6_writeStick_26 tx txl plc o).2) := if_pos c1
    have qj := jn33
    rw [hJ] at qj
    (try dsimp only at qj)
    exact qj _ _ _ _ hP hD hS hF hB0 (lv_sub hl [0, 1, 2, 3, 4, 5] rfl)
  · refine lv_aload_n S.1 S.2.1 dX6_writeStick_36 rfl (lv_at hl 2 rfl) ?_
    refine g_get (v := .ref (α (k + 1))) S hK hP (hB0 0 _ rfl) rfl inX6 0 (by decide) qw293 rfl dX6_writeStick_37 ?_
    refine lv_bipush (v := 32) S.1 S.2.1 dX6_writeStick_40 (by decide) ?_
    have hNm : (f_X1_add 2048 ((S_X6_writeStick_26 tx txl plc o).1) ((S_X6_writeStick_26 tx txl plc o).2) 32) = (S_X6_writeStick_42 tx txl plc o) := rfl
    have hCon := (c_X1_add l D A w1 α (k + 1) 2048 ((S_X6_writeStick_26 tx txl plc o).1) ((S_X6_writeStick_26 tx txl plc o).2) 32 (hB0.sub 1 rfl) (Nat.le_of_ble_eq_true rfl))
    rw [hNm] at hCon
    refine g_aft0 (st1 := []) (g_V (As := [.int 32]) (rest := []) S mi_X1_add qw1422 hCon hK hP hD hE hS (hB0 1 _ rfl) rfl rfl rfl hl.1 (Nat.le_of_ble_eq_true rfl) rfl rfl ⟨(Nat.le_of_ble_eq_true rfl), (Nat.le_of_ble_eq_true rfl)⟩ ⟨(Nat.le_of_ble_eq_true rfl), (Nat.le_of_ble_eq_true rfl)⟩ dX6_writeStick_42) hS rfl (fun w2 H locs hQ hP hD hS => ?_)
    have hF := hF.call 1 hQ.2 (by decide)
    have hB0 : Blk w2 k (cScribe D α k ((S_X6_writeStick_42 tx txl plc o).1) ((S_X6_writeStick_42 tx txl plc o).2)) := hB0.splice 1 hQ.1 hQ.2 rfl (Nat.le_of_ble_eq_true rfl)
    refine lv_aload_n S.1 S.2.1 dX6_writeStick_45 rfl (lv_at hl 2 rfl) ?_
    refine g_get (v := .ref (α (k + 1))) S hK hP (hB0 0 _ rfl) rfl inX6 0 (by decide) qw293 rfl dX6_writeStick_46 ?_
    refine lv_aload_n S.1 S.2.1 dX6_writeStick_49 rfl (lv_at hl 3 rfl) ?_
    refine lv_iload S.1 S.2.1 dX6_writeStick_50 (lv_at hl 1 rfl) ?_
    refine g_aftR0 (st1 := [.int (f_X7_personName pNames (f_X9_carrierOf car o)), .ref (α (k + 1))]) (g_V (As := [.int (f_X9_carrierOf car o)]) (rest := [.ref (α (k + 1))]) S mi_X7_personName qw1414 (c_X7_personName l D A w2 α (k2) nums bNames pNames fBoats nB nP (f_X9_carrierOf car o) (hB1.other hF hd1)) hK hP hD hE hS ((hB1.other hF hd1) 0 _ rfl) rfl rfl rfl hl.1 (Nat.le_of_ble_eq_true rfl) rfl rfl ⟨(Nat.le_of_ble_eq_true rfl), (Nat.le_of_ble_eq_true rfl)⟩ ⟨(Nat.le_of_ble_eq_true rfl), (Nat.le_of_ble_eq_true rfl)⟩ dX6_writeStick_52) hS rfl (fun locs hS => ?_)
    have hNm : (f_X1_addName 2048 ((S_X6_writeStick_42 tx txl plc o).1) ((S_X6_writeStick_42 tx txl plc o).2) (f_X7_personName pNames (f_X9_carrierOf car o))) = (S_X6_writeStick_55 tx txl pNames plc car o) := rfl
    have hCon := (c_X1_addName l D A w2 α (k + 1) 2048 ((S_X6_writeStick_42 tx txl plc o).1) ((S_X6_writeStick_42 tx txl plc o).2) (f_X7_personName pNames (f_X9_carrierOf car o)) (hB0.sub 1 rfl) (Nat.le_of_ble_eq_true rfl))
    rw [hNm] at hCon
    refine g_aft0 (st1 := []) (g_V (As := [.int (f_X7_personName pNames (f_X9_carrierOf car o))]) (rest := []) S mi_X1_addName qw1418 hCon hK hP hD hE hS (hB0 1 _ rfl) rfl rfl rfl hl.1 (Nat.le_of_ble_eq_true rfl) rfl rfl ⟨(Nat.le_of_ble_eq_true rfl), (Nat.le_of_ble_eq_true rfl)⟩ ⟨(Nat.le_of_ble_eq_true rfl), (Nat.le_of_ble_eq_true rfl)⟩ dX6_writeStick_55) hS rfl (fun w3 H locs hQ hP hD hS => ?_)
    have hF := hF.call 1 hQ.2 (by decide)
    have hB0 : Blk w3 k (cScribe D α k ((S_X6_writeStick_55 tx txl pNames plc car o).1) ((S_X6_writeStick_55 tx txl pNames plc car o).2)) := hB0.splice 1 hQ.1 hQ.2 rfl (Nat.le_of_ble_eq_true rfl)
    have hJ : (J_X6_writeStick_33 tx txl pNames plc car o) = ((S_X6_writeStick_55 tx txl pNames plc car o).1, (S_X6_writeStick_55 tx txl pNames plc car o).2) := if_neg c1
    have qj := jn33
    rw [hJ] at qj
    (try dsimp only at qj)
    exact qj _ _ _ _ hP hD hS hF hB0 (lv_sub hl [0, 1, 2, 3, 4, 5] rfl)
