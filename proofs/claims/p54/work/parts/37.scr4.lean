noncomputable def S_X6_writePerson_13 (tx : Nat → Int32) (txl : Int32) : (Nat → Int32) × Int32 := (f_X1_addText 2048 tx txl 28)
noncomputable def S_X6_writePerson_25 (tx : Nat → Int32) (txl : Int32) (pNames : Nat → Int32) (p : Int32) : (Nat → Int32) × Int32 := (f_X1_addName 2048 ((S_X6_writePerson_13 tx txl).1) ((S_X6_writePerson_13 tx txl).2) (f_X7_personName pNames p))
noncomputable def S_X6_writePerson_41 (tx : Nat → Int32) (txl : Int32) (pNames : Nat → Int32) (p : Int32) : (Nat → Int32) × Int32 := (f_X1_addText 2048 ((S_X6_writePerson_25 tx txl pNames p).1) ((S_X6_writePerson_25 tx txl pNames p).2) 29)
noncomputable def S_X6_writePerson_54 (tx : Nat → Int32) (txl : Int32) (bNames : Nat → Int32) (pNames : Nat → Int32) (boatO : Nat → Int32) (p : Int32) : (Nat → Int32) × Int32 := (f_X1_addName 2048 ((S_X6_writePerson_41 tx txl pNames p).1) ((S_X6_writePerson_41 tx txl pNames p).2) (f_X7_boatName bNames (f_X2_boatOf boatO p)))
noncomputable def J_X6_writePerson_32 (tx : Nat → Int32) (txl : Int32) (bNames : Nat → Int32) (pNames : Nat → Int32) (boatO : Nat → Int32) (p : Int32) : (Nat → Int32) × Int32 := (if (f_X2_boatOf boatO p) = (-2) then ((S_X6_writePerson_25 tx txl pNames p).1, (S_X6_writePerson_25 tx txl pNames p).2) else ((S_X6_writePerson_54 tx txl bNames pNames boatO p).1, (S_X6_writePerson_54 tx txl bNames pNames boatO p).2))
noncomputable def S_X6_writePerson_63 (tx : Nat → Int32) (txl : Int32) (bNames : Nat → Int32) (pNames : Nat → Int32) (boatO : Nat → Int32) (p : Int32) : (Nat → Int32) × Int32 := (f_X1_add 2048 ((J_X6_writePerson_32 tx txl bNames pNames boatO p).1) ((J_X6_writePerson_32 tx txl bNames pNames boatO p).2) 59)
noncomputable def f_X6_writePerson (tx : Nat → Int32) (txl : Int32) (bNames : Nat → Int32) (pNames : Nat → Int32) (boatO : Nat → Int32) (p : Int32) : (Nat → Int32) × Int32 := ((S_X6_writePerson_63 tx txl bNames pNames boatO p).1, (S_X6_writePerson_63 tx txl bNames pNames boatO p).2)
set_option maxHeartbeats 4000000 in
set_option maxRecDepth 100000 in
theorem c_X6_writePerson (l : Launch) (D : va_G) (A : Nat → Prop) (w : va_W) (α : Nat → Nat) (k : Nat) (tx : Nat → Int32) (txl : Int32) (k2 : Nat) (nums : Nat → Int32) (bNames : Nat → Int32) (pNames : Nat → Int32) (fBoats : Nat → Int32) (nB : Int32) (nP : Int32) (k3 : Nat) (boatO : Nat → Int32) (seaO : Nat → Int32) (faultO : Nat → Int32) (daysO : Nat → Int32) (backB : Nat → Int32) (sailB : Nat → Int32) (p : Int32) (hB0 : Blk w k (cScribe D α k tx txl)) (hB1 : Blk w k2 (cSetup D α k2 nums bNames pNames fBoats nB nP)) (hB2 : Blk w k3 (cFleet D α k3 boatO seaO faultO daysO backB sailB)) (hd1 : k2 + 5 ≤ k ∨ k + 3 ≤ k2) (hd2 : k3 + 7 ≤ k ∨ k + 3 ≤ k3) : Met l yX6_writePerson (ws_ yX6_writePerson cX6_writePerson 5 none) ({ frames := 5, cells := 0, slots := 0, locals := 107 }) (gPre D A [.ref (α (k)), .ref (α (k2)), .ref (α (k3)), .int p] w) (gQ D A none (fun w1 => Blk w1 k (cScribe D α k ((f_X6_writePerson tx txl bNames pNames boatO p).1) ((f_X6_writePerson tx txl bNames pNames boatO p).2)) ∧ Same w w1 k 3)) 0 0 A := by
  refine g_met [(0, .ref (α (k))), (1, .ref (α (k2))), (2, .ref (α (k3))), (3, .int p)] (plainFor_of_name (by decide)) (Nat.le_of_ble_eq_true rfl) rfl (fun pg en s mi ar below me co ls S hK hP hD hE hS hr hlk hnm hl => ?_)
  have hF : Same w w k 3 := Same.rf
  refine lv_aload_n S.1 S.2.1 dX6_writePerson_0 rfl (lv_at hl 2 rfl) ?_
  refine lv_iload_n S.1 S.2.1 dX6_writePerson_1 rfl (lv_at hl 3 rfl) ?_
  refine g_aftR0 (st1 := [.int (f_X2_boatOf boatO p)]) (g_V (As := [.int p]) (rest := []) S mi_X2_boatOf qw1509 (c_X2_boatOf l D A w α (k3) boatO seaO faultO daysO backB sailB p hB2) hK hP hD hE hS (hB2 0 _ rfl) rfl rfl rfl hl.1 (Nat.le_of_ble_eq_true rfl) rfl rfl ⟨(Nat.le_of_ble_eq_true rfl), (Nat.le_of_ble_eq_true rfl)⟩ ⟨(Nat.le_of_ble_eq_true rfl), (Nat.le_of_ble_eq_true rfl)⟩ dX6_writePerson_2) hS rfl (fun locs hS => ?_)
  refine lv_istore (lv' := [(4, .int (f_X2_boatOf boatO p)), (0, .ref (α (k))), (1, .ref (α (k2))), (2, .ref (α (k3))), (3, .int p)]) S.1 S.2.1 dX6_writePerson_5 hl (by decide) rfl (fun ls hl => ?_)
  refine lv_aload_n S.1 S.2.1 dX6_writePerson_7 rfl (lv_at hl 1 rfl) ?_
  refine g_get (v := .ref (α (k + 1))) S hK hP (hB0 0 _ rfl) rfl inX6 0 (by decide) qw293 rfl dX6_writePerson_8 ?_
  refine va_ldcS (own := RX6) (q := D.2 200 28) S.1 S.2.1 S.2.2.2.1 (ldS_29 hE) dX6_writePerson_11 ?_
  have hNm : (f_X1_addText 2048 tx txl 28) = (S_X6_writePerson_13 tx txl) := rfl
  have hCon := (c_X1_addText l D A w α (k + 1) 2048 tx txl 28 (hB0.sub 1 rfl) (Nat.le_of_ble_eq_true rfl) (by decide))
  rw [hNm] at hCon
  refine g_aft0 (st1 := []) (g_V (As := [.ref (D.2 200 28)]) (rest := []) S mi_X1_addText qw1437 hCon hK hP hD hE hS (hB0 1 _ rfl) rfl rfl rfl hl.1 (Nat.le_of_ble_eq_true rfl) rfl rfl ⟨(Nat.le_of_ble_eq_true rfl), (Nat.le_of_ble_eq_true rfl)⟩ ⟨(Nat.le_of_ble_eq_true rfl), (Nat.le_of_ble_eq_true rfl)⟩ dX6_writePerson_13) hS rfl (fun w1 H locs hQ hP hD hS => ?_)
  have hF := hF.call 1 hQ.2 (by decide)
  have hB0 : Blk w1 k (cScribe D α k ((S_X6_writePerson_13 tx txl).1) ((S_X6_writePerson_13 tx txl).2)) := hB0.splice 1 hQ.1 hQ.2 rfl (Nat.le_of_ble_eq_true rfl)
  refine lv_aload_n S.1 S.2.1 dX6_writePerson_16 rfl (lv_at hl 1 rfl) ?_
  refine g_get (v := .ref (α (k + 1))) S hK hP (hB0 0 _ rfl) rfl inX6 0 (by decide) qw293 rfl dX6_writePerson_17 ?_
  refine lv_aload_n S.1 S.2.1 dX6_writePerson_20 rfl (lv_at hl 2 rfl) ?_
  refine lv_iload_n S.1 S.2.1 dX6_writePerson_21 rfl (lv_at hl 4 rfl) ?_
  refine g_aftR0 (st1 := [.int (f_X7_personName pNames p), .ref (α (k + 1))]) (g_V (As := [.int p]) (rest := [.ref (α (k + 1))]) S mi_X7_personName qw1414 (c_X7_personName l D A w1 α (k2) nums bNames pNames fBoats nB nP p (hB1.other hF hd1)) hK hP hD hE hS ((hB1.other hF hd1) 0 _ rfl) rfl rfl rfl hl.1 (Nat.le_of_ble_eq_true rfl) rfl rfl ⟨(Nat.le_of_ble_eq_true rfl), (Nat.le_of_ble_eq_true rfl)⟩ ⟨(Nat.le_of_ble_eq_true rfl), (Nat.le_of_ble_eq_true rfl)⟩ dX6_writePerson_22) hS rfl (fun locs hS => ?_)
  have hNm : (f_X1_addName 2048 ((S_X6_writePerson_13 tx txl).1) ((S_X6_writePerson_13 tx txl).2) (f_X7_personName pNames p)) = (S_X6_writePerson_25 tx txl pNames p) := rfl
  have hCon := (c_X1_addName l D A w1 α (k + 1) 2048 ((S_X6_writePerson_13 tx txl).1) ((S_X6_writePerson_13 tx txl).2) (f_X7_personName pNames p) (hB0.sub 1 rfl) (Nat.le_of_ble_eq_true rfl))
  rw [hNm] at hCon
  refine g_aft0 (st1 := []) (g_V (As := [.int (f_X7_personName pNames p)]) (rest := []) S mi_X1_addName qw1418 hCon hK hP hD hE hS (hB0 1 _ rfl) rfl rfl rfl hl.1 (Nat.le_of_ble_eq_true rfl) rfl rfl ⟨(Nat.le_of_ble_eq_true rfl), (Nat.le_of_ble_eq_true rfl)⟩ ⟨(Nat.le_of_ble_eq_true rfl), (Nat.le_of_ble_eq_true rfl)⟩ dX6_writePerson_25) hS rfl (fun w2 H locs hQ hP hD hS => ?_)
  have hF := hF.call 1 hQ.2 (by decide)
  have hB0 : Blk w2 k (cScribe D α k ((S_X6_writePerson_25 tx txl pNames p).1) ((S_X6_writePerson_25 tx txl pNames p).2)) := hB0.splice 1 hQ.1 hQ.2 rfl (Nat.le_of_ble_eq_true rfl)
  refine lv_iload S.1 S.2.1 dX6_writePerson_28 (lv_at hl 0 rfl) ?_
  refine lv_bipush (v := (-2)) S.1 S.2.1 dX6_writePerson_30 (by decide) ?_
  have jn32 : ∀ (wl : va_W) (H : Heap) (locs : List Loc) (ls : Array Slot), va_P D vwCl wl H → va_D A wl → va_S A s.heap H locs → Same w wl k 3 → Blk wl k (cScribe D α k ((J_X6_writePerson_32 tx txl bNames pNames boatO p).1) ((J_X6_writePerson_32 tx txl bNames pNames boatO p).2)) → lv_has ls 5 [(4, .int (f_X2_boatOf boatO p)), (0, .ref (α (k))), (1, .ref (α (k2))), (2, .ref (α (k3))), (3, .int p)] → W pg l en ({ frames := 5, cells := 0, slots := 0, locals := 107 } : Room) s mi ar below me co H locs 0 0 (MQ below (gQ D A none (fun w1 => Blk w1 k (cScribe D α k ((f_X6_writePerson tx txl bNames pNames boatO p).1) ((f_X6_writePerson tx txl bNames pNames boatO p).2)) ∧ Same w w1 k 3)) ar s 0 0 A) (F0 mi 57 ls []) := by
    intro wl H locs ls hP hD hS hF hB0 hl
    refine lv_aload_n S.1 S.2.1 dX6_writePerson_57 rfl (lv_at hl 1 rfl) ?_
    refine g_get (v := .ref (α (k + 1))) S hK hP (hB0 0 _ rfl) rfl inX6 0 (by decide) qw293 rfl dX6_writePerson_58 ?_
    refine lv_bipush (v := 59) S.1 S.2.1 dX6_writePerson_61 (by decide) ?_
    have hNm : (f_X1_add 2048 ((J_X6_writePerson_32 tx txl bNames pNames boatO p).1) ((J_X6_writePerson_32 tx txl bNames pNames boatO p).2) 59) = (S_X6_writePerson_63 tx txl bNames pNames boatO p) := rfl
    have hCon := (c_X1_add l D A wl α (k + 1) 2048 ((J_X6_writePerson_32 tx txl bNames pNames boatO p).1) ((J_X6_writePerson_32 tx txl bNames pNames boatO p).2) 59 (hB0.sub 1 rfl) (Nat.le_of_ble_eq_true rfl))
    rw [hNm] at hCon
    refine g_aft0 (st1 := []) (g_V (As := [.int 59]) (rest := []) S mi_X1_add qw1422 hCon hK hP hD hE hS (hB0 1 _ rfl) rfl rfl rfl hl.1 (Nat.le_of_ble_eq_true rfl) rfl rfl ⟨(Nat.le_of_ble_eq_true rfl), (Nat.le_of_ble_eq_true rfl)⟩ ⟨(Nat.le_of_ble_eq_true rfl), (Nat.le_of_ble_eq_true rfl)⟩ dX6_writePerson_63) hS rfl (fun w5 H locs hQ hP hD hS => ?_)
    have hF := hF.call 1 hQ.2 (by decide)
    have hB0 : Blk w5 k (cScribe D α k ((S_X6_writePerson_63 tx txl bNames pNames boatO p).1) ((S_X6_writePerson_63 tx txl bNames pNames boatO p).2)) := hB0.splice 1 hQ.1 hQ.2 rfl (Nat.le_of_ble_eq_true rfl)
    have hf : (f_X6_writePerson tx txl bNames pNames boatO p) = ((S_X6_writePerson_63 tx txl bNames pNames boatO p).1, (S_X6_writePerson_63 tx txl bNames pNames boatO p).2) := rfl
    exact g_vret S hr hlk hP hD hS (rfl) (⟨by rw [hf]; dsimp only; exact hB0, hF⟩) dX6_writePerson_66
  refine lv_icmp_eq (tgt := 57) S.1 S.2.1 dX6_writePerson_32 (by decide) (fun (c1 : (f_X2_boatOf boatO p) = (-2)) => ?_) (fun (c1 : ¬ (f_X2_boatOf boatO p) = (-2)) => ?_)
  · skip
    have hJ : (J_X6_writePerson_32 tx txl bNames pNames boatO p) = ((S_X6_writePerson_25 tx txl pNames p).1, (S_X6_writePerson_25 tx txl pNames p).2) := if_pos c1
    have qj := jn32
    rw [hJ] at qj
    (try dsimp only at qj)
    exact qj _ _ _ _ hP hD hS hF hB0 (lv_sub hl [0, 1, 2, 3, 4] rfl)
  · refine lv_aload_n S.1 S.2.1 dX6_writePerson_35 rfl (lv_at hl 1 rfl) ?_
    refine g_get (v := .ref (α (k + 1))) S hK hP (hB0 0 _ rfl) rfl inX6 0 (by decide) qw293 rfl dX6_writePerson_36 ?_
    refine va_ldcS (own := RX6) (q := D.2 200 29) S.1 S.2.1 S.2.2.2.1 (ldS_30 hE) dX6_writePerson_39 ?_
    have hNm : (f_X1_addText 2048 ((S_X6_writePerson_25 tx txl pNames p).1) ((S_X6_writePerson_25 tx txl pNames p).2) 29) = (S_X6_writePerson_41 tx txl pNames p) := rfl
    have hCon := (c_X1_addText l D A w2 α (k + 1) 2048 ((S_X6_writePerson_25 tx txl pNames p).1) ((S_X6_writePerson_25 tx txl pNames p).2) 29 (hB0.sub 1 rfl) (Nat.le_of_ble_eq_true rfl) (by decide))
    rw [hNm] at hCon
    refine g_aft0 (st1 := []) (g_V (As := [.ref (D.2 200 29)]) (rest := []) S mi_X1_addText qw1437 hCon hK hP hD hE hS (hB0 1 _ rfl) rfl rfl rfl hl.1 (Nat.le_of_ble_eq_true rfl) rfl rfl ⟨(Nat.le_of_ble_eq_true rfl), (Nat.le_of_ble_eq_true rfl)⟩ ⟨(Nat.le_of_ble_eq_true rfl), (Nat.le_of_ble_eq_true rfl)⟩ dX6_writePerson_41) hS rfl (fun w3 H locs hQ hP hD hS => ?_)
    have hF := hF.call 1 hQ.2 (by decide)
    have hB0 : Blk w3 k (cScribe D α k ((S_X6_writePerson_41 tx txl pNames p).1) ((S_X6_writePerson_41 tx txl pNames p).2)) := hB0.splice 1 hQ.1 hQ.2 rfl (Nat.le_of_ble_eq_true rfl)
    refine lv_aload_n S.1 S.2.1 dX6_writePerson_44 rfl (lv_at hl 1 rfl) ?_
    refine g_get (v := .ref (α (k + 1))) S hK hP (hB0 0 _ rfl) rfl inX6 0 (by decide) qw293 rfl dX6_writePerson_45 ?_
    refine lv_aload_n S.1 S.2.1 dX6_writePerson_48 rfl (lv_at hl 2 rfl) ?_
    refine lv_iload S.1 S.2.1 dX6_writePerson_49 (lv_at hl 0 rfl) ?_
    refine g_aftR0 (st1 := [.int (f_X7_boatName bNames (f_X2_boatOf boatO p)), .ref (α (k + 1))]) (g_V (As := [.int (f_X2_boatOf boatO p)]) (rest := [.ref (α (k + 1))]) S mi_X7_boatName qw1501 (c_X7_boatName l D A w3 α (k2) nums bNames pNames fBoats nB nP (f_X2_boatOf boatO p) (hB1.other hF hd1)) hK hP hD hE hS ((hB1.other hF hd1) 0 _ rfl) rfl rfl rfl hl.1 (Nat.le_of_ble_eq_true rfl) rfl rfl ⟨(Nat.le_of_ble_eq_true rfl), (Nat.le_of_ble_eq_true rfl)⟩ ⟨(Nat.le_of_ble_eq_true rfl), (Nat.le_of_ble_eq_true rfl)⟩ dX6_writePerson_51) hS rfl (fun locs hS => ?_)
    have hNm : (f_X1_addName 2048 ((S_X6_writePerson_41 tx txl pNames p).1) ((S_X6_writePerson_41 tx txl pNames p).2) (f_X7_boatName bNames (f_X2_boatOf boatO p))) = (S_X6_writePerson_54 tx txl bNames pNames boatO p) := rfl
    have hCon := (c_X1_addName l D A w3 α (k + 1) 2048 ((S_X6_writePerson_41 tx txl pNames p).1) ((S_X6_writePerson_41 tx txl pNames p).2) (f_X7_boatName bNames (f_X2_boatOf boatO p)) (hB0.sub 1 rfl) (Nat.le_of_ble_eq_true rfl))
    rw [hNm] at hCon
    refine g_aft0 (st1 := []) (g_V (As := [.int (f_X7_boatName bNames (f_X2_boatOf boatO p))]) (rest := []) S mi_X1_addName qw1418 hCon hK hP hD hE hS (hB0 1 _ rfl) rfl rfl rfl hl.1 (Nat.le_of_ble_eq_true rfl) rfl rfl ⟨(Nat.le_of_ble_eq_true rfl), (Nat.le_of_ble_eq_true rfl)⟩ ⟨(Nat.le_of_ble_eq_true rfl), (Nat.le_of_ble_eq_true rfl)⟩ dX6_writePerson_54) hS rfl (fun w4 H locs hQ hP hD hS => ?_)
    have hF := hF.call 1 hQ.2 (by decide)
    have hB0 : Blk w4 k (cScribe D α k ((S_X6_writePerson_54 tx txl bNames pNames boatO p).1) ((S_X6_writePerson_54 tx txl bNames pNames boatO p).2)) := hB0.splice 1 hQ.1 hQ.2 rfl (Nat.le_of_ble_eq_true rfl)
    have hJ : (J_X6_writePerson_32 tx txl bNames pNames boatO p) = ((S_X6_writePerson_54 tx txl bNames pNames boatO p).1, (S_X6_writePerson_54 tx txl bNames pNames boatO p).2) := if_neg c1
    have qj := jn32
    rw [hJ] at qj
    (try dsimp only at qj)
    exact qj _ _ _ _ hP hD hS hF hB0 (lv_sub hl [0, 1, 2, 3, 4] rfl)
