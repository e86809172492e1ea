noncomputable def S_X6_writeView_5 (txl : Int32) : Int32 := (f_X1_cutTo txl 0)
noncomputable def S_X6_writeView_27 (tx : Nat → Int32) (txl : Int32) (pNames : Nat → Int32) (seaO : Nat → Int32) (plc : Nat → Int32) (car : Nat → Int32) (bsk : Nat → Int32) (n : Nat) (sn : (Nat → Int32) × Int32) : (Nat → Int32) × Int32 := (f_X1_addName 2048 (sn.1) (sn.2) (f_X7_personName pNames (nI n)))
noncomputable def S_X6_writeView_36 (tx : Nat → Int32) (txl : Int32) (pNames : Nat → Int32) (seaO : Nat → Int32) (plc : Nat → Int32) (car : Nat → Int32) (bsk : Nat → Int32) (n : Nat) (sn : (Nat → Int32) × Int32) : (Nat → Int32) × Int32 := (f_X1_add 2048 ((S_X6_writeView_27 tx txl pNames seaO plc car bsk n sn).1) ((S_X6_writeView_27 tx txl pNames seaO plc car bsk n sn).2) 32)
noncomputable def S_X6_writeView_46 (tx : Nat → Int32) (txl : Int32) (pNames : Nat → Int32) (seaO : Nat → Int32) (plc : Nat → Int32) (car : Nat → Int32) (bsk : Nat → Int32) (n : Nat) (sn : (Nat → Int32) × Int32) : (Nat → Int32) × Int32 := (f_X6_writeStick ((S_X6_writeView_36 tx txl pNames seaO plc car bsk n sn).1) ((S_X6_writeView_36 tx txl pNames seaO plc car bsk n sn).2) pNames plc car bsk (nI n))
noncomputable def S_X6_writeView_66 (tx : Nat → Int32) (txl : Int32) (pNames : Nat → Int32) (seaO : Nat → Int32) (plc : Nat → Int32) (car : Nat → Int32) (bsk : Nat → Int32) (n : Nat) (sn : (Nat → Int32) × Int32) : (Nat → Int32) × Int32 := (f_X1_addText 2048 ((S_X6_writeView_46 tx txl pNames seaO plc car bsk n sn).1) ((S_X6_writeView_46 tx txl pNames seaO plc car bsk n sn).2) 14)
noncomputable def J_X6_writeView_57 (tx : Nat → Int32) (txl : Int32) (pNames : Nat → Int32) (seaO : Nat → Int32) (plc : Nat → Int32) (car : Nat → Int32) (bsk : Nat → Int32) (n : Nat) (sn : (Nat → Int32) × Int32) : (Nat → Int32) × Int32 := (bif (f_X2_isAtSea seaO (nI n)) then ((S_X6_writeView_66 tx txl pNames seaO plc car bsk n sn).1, (S_X6_writeView_66 tx txl pNames seaO plc car bsk n sn).2) else ((S_X6_writeView_46 tx txl pNames seaO plc car bsk n sn).1, (S_X6_writeView_46 tx txl pNames seaO plc car bsk n sn).2))
noncomputable def S_X6_writeView_75 (tx : Nat → Int32) (txl : Int32) (pNames : Nat → Int32) (seaO : Nat → Int32) (plc : Nat → Int32) (car : Nat → Int32) (bsk : Nat → Int32) (n : Nat) (sn : (Nat → Int32) × Int32) : (Nat → Int32) × Int32 := (f_X1_add 2048 ((J_X6_writeView_57 tx txl pNames seaO plc car bsk n sn).1) ((J_X6_writeView_57 tx txl pNames seaO plc car bsk n sn).2) 10)
noncomputable def G_X6_writeView_10 (tx : Nat → Int32) (txl : Int32) (pNames : Nat → Int32) (seaO : Nat → Int32) (plc : Nat → Int32) (car : Nat → Int32) (bsk : Nat → Int32) (n : Nat) (sn : (Nat → Int32) × Int32) : (Nat → Int32) × Int32 := ((S_X6_writeView_75 tx txl pNames seaO plc car bsk n sn).1, (S_X6_writeView_75 tx txl pNames seaO plc car bsk n sn).2)
noncomputable def L_X6_writeView_10 (tx : Nat → Int32) (txl : Int32) (pNames : Nat → Int32) (seaO : Nat → Int32) (plc : Nat → Int32) (car : Nat → Int32) (bsk : Nat → Int32) : Nat → (Nat → Int32) × Int32 := iter_ (G_X6_writeView_10 tx txl pNames seaO plc car bsk) (tx, (S_X6_writeView_5 txl))
noncomputable def f_X6_writeView (tx : Nat → Int32) (txl : Int32) (pNames : Nat → Int32) (nP : Int32) (seaO : Nat → Int32) (plc : Nat → Int32) (car : Nat → Int32) (bsk : Nat → Int32) : (Nat → Int32) × Int32 := ((L_X6_writeView_10 tx txl pNames seaO plc car bsk nP.toNatClampNeg).1, (L_X6_writeView_10 tx txl pNames seaO plc car bsk nP.toNatClampNeg).2)
set_option maxHeartbeats 4000000 in
set_option maxRecDepth 100000 in
theorem c_X6_writeView (l : Launch) (D : va_G) (A : Nat → Prop) (w : va_W) (α : Nat → Nat) (k : Nat) (tx : Nat → Int32) (txl : Int32) (k2 : Nat) (nums : Nat → Int32) (bNames : Nat → Int32) (pNames : Nat → Int32) (fBoats : Nat → Int32) (nB : Int32) (nP : Int32) (k3 : Nat) (day : Int32) (votes : Int32) (isOpen : Int32) (baskets : Int32) (lays : Int32) (recs : Int32) (fneed : Int32) (clos : Int32) (boatO : Nat → Int32) (seaO : Nat → Int32) (faultO : Nat → Int32) (daysO : Nat → Int32) (backB : Nat → Int32) (sailB : Nat → Int32) (plc : Nat → Int32) (car : Nat → Int32) (bnd : Nat → Int32) (bsk : Nat → Int32) (dyL : Nat → Int32) (rsn : Nat → Int32) (pastF : Nat → Int32) (pastN : Int32) (logF : Nat → Int32) (logN : Int32) (hB0 : Blk w k (cScribe D α k tx txl)) (hB1 : Blk w k2 (cSetup D α k2 nums bNames pNames fBoats nB nP)) (hB2 : Blk w k3 (cState D α k3 day votes isOpen baskets lays recs fneed clos boatO seaO faultO daysO backB sailB plc car bnd bsk dyL rsn pastF pastN logF logN)) (hd1 : k2 + 5 ≤ k ∨ k + 3 ≤ k2) (hd2 : k3 + 19 ≤ k ∨ k + 3 ≤ k3) : Met l yX6_writeView (ws_ yX6_writeView cX6_writeView 4 (some (.object "StickVotes$Bytes"))) ({ frames := 6, cells := 0, slots := 0, locals := 132 }) (gPre D A [.ref (α (k)), .ref (α (k2)), .ref (α (k3))] w) (gQ D A (some (.ref (α (k + 1)))) (fun w1 => Blk w1 k (cScribe D α k ((f_X6_writeView tx txl pNames nP seaO plc car bsk).1) ((f_X6_writeView tx txl pNames nP seaO plc car bsk).2)) ∧ Same w w1 k 3)) 0 0 A := by
  refine g_met [(0, .ref (α (k))), (1, .ref (α (k2))), (2, .ref (α (k3)))] (plainFor_of_name (by decide)) (Nat.le_of_ble_eq_true rfl) rfl (fun pg en s mi ar below me co ls S hK hP hD hE hS hr hlk hnm hl => ?_)
  have hF : Same w w k 3 := Same.rf
  refine lv_aload_n S.1 S.2.1 dX6_writeView_0 rfl (lv_at hl 0 rfl) ?_
  refine g_get (v := .ref (α (k + 1))) S hK hP (hB0 0 _ rfl) rfl inX6 0 (by decide) qw293 rfl dX6_writeView_1 ?_
  refine lv_iconst (v := 0) S.1 S.2.1 dX6_writeView_4 (by decide) ?_
  have hNm : (f_X1_cutTo txl 0) = (S_X6_writeView_5 txl) := rfl
  have hCon := (c_X1_cutTo l D A w α (k + 1) 2048 tx txl 0 (hB0.sub 1 rfl))
  rw [hNm] at hCon
  refine g_aft0 (st1 := []) (g_V (As := [.int 0]) (rest := []) S mi_X1_cutTo qw1412 hCon hK hP hD hE hS (hB0 1 _ rfl) rfl rfl rfl hl.1 (Nat.le_of_ble_eq_true rfl) rfl rfl ⟨(Nat.le_of_ble_eq_true rfl), (Nat.le_of_ble_eq_true rfl)⟩ ⟨(Nat.le_of_ble_eq_true rfl), (Nat.le_of_ble_eq_true rfl)⟩ dX6_writeView_5) hS rfl (fun w1 H locs hQ hP hD hS => ?_)
  have hF := hF.call 1 hQ.2 (by decide)
  have hB0 : Blk w1 k (cScribe D α k tx (S_X6_writeView_5 txl)) := hB0.splice 1 hQ.1 hQ.2 rfl (Nat.le_of_ble_eq_true rfl)
  refine lv_iconst (v := 0) S.1 S.2.1 dX6_writeView_8 (by decide) ?_
  refine lv_istore_n (lv' := [(3, .int 0), (0, .ref (α (k))), (1, .ref (α (k2))), (2, .ref (α (k3)))]) S.1 S.2.1 dX6_writeView_9 rfl hl (by decide) rfl (fun ls hl => ?_)
  have lp10 : ∀ (j n : Nat), n + j = nP.toNatClampNeg → ∀ (wl : va_W) (H : Heap) (locs : List Loc) (ls : Array Slot), va_P D vwCl wl H → va_D A wl → va_S A s.heap H locs → Same w wl k 3 → Blk wl k (cScribe D α k ((L_X6_writeView_10 tx txl pNames seaO plc car bsk n).1) ((L_X6_writeView_10 tx txl pNames seaO plc car bsk n).2)) → lv_has ls 4 [(3, .int (nI n)), (0, .ref (α (k))), (1, .ref (α (k2))), (2, .ref (α (k3)))] → W pg l en ({ frames := 6, cells := 0, slots := 0, locals := 132 } : Room) s mi ar below me co H locs 0 0 (MQ below (gQ D A (some (.ref (α (k + 1)))) (fun w1 => Blk w1 k (cScribe D α k ((f_X6_writeView tx txl pNames nP seaO plc car bsk).1) ((f_X6_writeView tx txl pNames nP seaO plc car bsk).2)) ∧ Same w w1 k 3)) ar s 0 0 A) (F0 mi 10 ls []) := by
    intro j
    induction j with
    | zero =>
      intro n hn wl H locs ls hP hD hS hF hB0 hl
      have hn : nP.toNatClampNeg = n := hn.symm
      subst hn
      refine lv_iload_n S.1 S.2.1 dX6_writeView_10 rfl (lv_at hl 0 rfl) ?_
      refine lv_aload_n S.1 S.2.1 dX6_writeView_11 rfl (lv_at hl 2 rfl) ?_
      refine g_aftR0 (st1 := [.int nP, .int (nI nP.toNatClampNeg)]) (g_V (As := []) (rest := [.int (nI nP.toNatClampNeg)]) S mi_X7_people qw1413 (c_X7_people l D A wl α (k2) nums bNames pNames fBoats nB nP (hB1.other hF hd1)) hK hP hD hE hS ((hB1.other hF hd1) 0 _ rfl) rfl rfl rfl hl.1 (Nat.le_of_ble_eq_true rfl) rfl rfl ⟨(Nat.le_of_ble_eq_true rfl), (Nat.le_of_ble_eq_true rfl)⟩ ⟨(Nat.le_of_ble_eq_true rfl), (Nat.le_of_ble_eq_true rfl)⟩ dX6_writeView_12) hS rfl (fun locs hS => ?_)
      refine lv_icmp_ge (tgt := 84) S.1 S.2.1 dX6_writeView_15 (by decide) (fun (c1 : nP ≤ (nI nP.toNatClampNeg)) => ?_) (fun (c1 : ¬ nP ≤ (nI nP.toNatClampNeg)) => absurd c1 (lp_out0 (rfl)))
      refine lv_aload_n S.1 S.2.1 dX6_writeView_84 rfl (lv_at hl 1 rfl) ?_
      refine g_get (v := .ref (α (k + 1))) S hK hP (hB0 0 _ rfl) rfl inX6 0 (by decide) qw293 rfl dX6_writeView_85 ?_
      have hf : (f_X6_writeView tx txl pNames nP seaO plc car bsk) = ((L_X6_writeView_10 tx txl pNames seaO plc car bsk nP.toNatClampNeg).1, (L_X6_writeView_10 tx txl pNames seaO plc car bsk nP.toNatClampNeg).2) := rfl
      exact g_aret S hr hlk hP hD hS (rfl) (⟨by rw [hf]; dsimp only; exact hB0, hF⟩) dX6_writeView_88
    | succ j ih =>
      intro n hn wl H locs ls hP hD hS hF hB0 hl
      refine lv_iload_n S.1 S.2.1 dX6_writeView_10 rfl (lv_at hl 0 rfl) ?_
      refine lv_aload_n S.1 S.2.1 dX6_writeView_11 rfl (lv_at hl 2 rfl) ?_
      refine g_aftR0 (st1 := [.int nP, .int (nI n)]) (g_V (As := []) (rest := [.int (nI n)]) S mi_X7_people qw1413 (c_X7_people l D A wl α (k2) nums bNames pNames fBoats nB nP (hB1.other hF hd1)) hK hP hD hE hS ((hB1.other hF hd1) 0 _ rfl) rfl rfl rfl hl.1 (Nat.le_of_ble_eq_true rfl) rfl rfl ⟨(Nat.le_of_ble_eq_true rfl), (Nat.le_of_ble_eq_true rfl)⟩ ⟨(Nat.le_of_ble_eq_true rfl), (Nat.le_of_ble_eq_true rfl)⟩ dX6_writeView_12) hS rfl (fun locs hS => ?_)
      refine lv_icmp_ge (tgt := 84) S.1 S.2.1 dX6_writeView_15 (by decide) (fun (c2 : nP ≤ (nI n)) => absurd c2 (lp_in0 (rfl) hn)) (fun (c2 : ¬ nP ≤ (nI n)) => ?_)
      refine lv_aload_n S.1 S.2.1 dX6_writeView_18 rfl (lv_at hl 1 rfl) ?_
      refine g_get (v := .ref (α (k + 1))) S hK hP (hB0 0 _ rfl) rfl inX6 0 (by decide) qw293 rfl dX6_writeView_19 ?_
      refine lv_aload_n S.1 S.2.1 dX6_writeView_22 rfl (lv_at hl 2 rfl) ?_
      refine lv_iload_n S.1 S.2.1 dX6_writeView_23 rfl (lv_at hl 0 rfl) ?_
      refine g_aftR0 (st1 := [.int (f_X7_personName pNames (nI n)), .ref (α (k + 1))]) (g_V (As := [.int (nI n)]) (rest := [.ref (α (k + 1))]) S mi_X7_personName qw1414 (c_X7_personName l D A wl α (k2) nums bNames pNames fBoats nB nP (nI n) (hB1.other hF hd1)) hK hP hD hE hS ((hB1.other hF hd1) 0 _ rfl) rfl rfl rfl hl.1 (Nat.le_of_ble_eq_true rfl) rfl rfl ⟨(Nat.le_of_ble_eq_true rfl), (Nat.le_of_ble_eq_true rfl)⟩ ⟨(Nat.le_of_ble_eq_true rfl), (Nat.le_of_ble_eq_true rfl)⟩ dX6_writeView_24) hS rfl (fun locs hS => ?_)
      have hNm : (f_X1_addName 2048 ((L_X6_writeView_10 tx txl pNames seaO plc car bsk n).1) ((L_X6_writeView_10 tx txl pNames seaO plc car bsk n).2) (f_X7_personName pNames (nI n))) = (S_X6_writeView_27 tx txl pNames seaO plc car bsk n (L_X6_writeView_10 tx txl pNames seaO plc car bsk n)) := rfl
      have hCon := (c_X1_addName l D A wl α (k + 1) 2048 ((L_X6_writeView_10 tx txl pNames seaO plc car bsk n).1) ((L_X6_writeView_10 tx txl pNames seaO plc car bsk n).2) (f_X7_personName pNames (nI n)) (hB0.sub 1 rfl) (Nat.le_of_ble_eq_true rfl))
      rw [hNm] at hCon
      refine g_aft0 (st1 := []) (g_V (As := [.int (f_X7_personName pNames (nI n))]) (rest := []) S mi_X1_addName qw1418 hCon hK hP hD hE hS (hB0 1 _ rfl) rfl rfl rfl hl.1 (Nat.le_of_ble_eq_true rfl) rfl rfl ⟨(Nat.le_of_ble_eq_true rfl), (Nat.le_of_ble_eq_true rfl)⟩ ⟨(Nat.le_of_ble_eq_true rfl), (Nat.le_of_ble_eq_true rfl)⟩ dX6_writeView_27) hS rfl (fun w2 H locs hQ hP hD hS => ?_)
      have hF := hF.call 1 hQ.2 (by decide)
      have hB0 : Blk w2 k (cScribe D α k ((S_X6_writeView_27 tx txl pNames seaO plc car bsk n (L_X6_writeView_10 tx txl pNames seaO plc car bsk n)).1) ((S_X6_writeView_27 tx txl pNames seaO plc car bsk n (L_X6_writeView_10 tx txl pNames seaO plc car bsk n)).2)) := hB0.splice 1 hQ.1 hQ.2 rfl (Nat.le_of_ble_eq_true rfl)
      refine lv_aload_n S.1 S.2.1 dX6_writeView_30 rfl (lv_at hl 1 rfl) ?_
      refine g_get (v := .ref (α (k + 1))) S hK hP (hB0 0 _ rfl) rfl inX6 0 (by decide) qw293 rfl dX6_writeView_31 ?_
      refine lv_bipush (v := 32) S.1 S.2.1 dX6_writeView_34 (by decide) ?_
      have hNm : (f_X1_add 2048 ((S_X6_writeView_27 tx txl pNames seaO plc car bsk n (L_X6_writeView_10 tx txl pNames seaO plc car bsk n)).1) ((S_X6_writeView_27 tx txl pNames seaO plc car bsk n (L_X6_writeView_10 tx txl pNames seaO plc car bsk n)).2) 32) = (S_X6_writeView_36 tx txl pNames seaO plc car bsk n (L_X6_writeView_10 tx txl pNames seaO plc car bsk n)) := rfl
      have hCon := (c_X1_add l D A w2 α (k + 1) 2048 ((S_X6_writeView_27 tx txl pNames seaO plc car bsk n (L_X6_writeView_10 tx txl pNames seaO plc car bsk n)).1) ((S_X6_writeView_27 tx txl pNames seaO plc car bsk n (L_X6_writeView_10 tx txl pNames seaO plc car bsk n)).2) 32 (hB0.sub 1 rfl) (Nat.le_of_ble_eq_true rfl))
      rw [hNm] at hCon
      refine g_aft0 (st1 := []) (g_V (As := [.int 32]) (rest := []) S mi_X1_add qw1422 hCon hK hP hD hE hS (hB0 1 _ rfl) rfl rfl rfl hl.1 (Nat.le_of_ble_eq_true rfl) rfl rfl ⟨(Nat.le_of_ble_eq_true rfl), (Nat.le_of_ble_eq_true rfl)⟩ ⟨(Nat.le_of_ble_eq_true rfl), (Nat.le_of_ble_eq_true rfl)⟩ dX6_writeView_36) hS rfl (fun w3 H locs hQ hP hD hS => ?_)
      have hF := hF.call 1 hQ.2 (by decide)
      have hB0 : Blk w3 k (cScribe D α k ((S_X6_writeView_36 tx txl pNames seaO plc car bsk n (L_X6_writeView_10 tx txl pNames seaO plc car bsk n)).1) ((S_X6_writeView_36 tx txl pNames seaO plc car bsk n (L_X6_writeView_10 tx txl pNames seaO plc car bsk n)).2)) := hB0.splice 1 hQ.1 hQ.2 rfl (Nat.le_of_ble_eq_true rfl)
      refine lv_aload_n S.1 S.2.1 dX6_writeView_39 rfl (lv_at hl 1 rfl) ?_
      refine lv_aload_n S.1 S.2.1 dX6_writeView_40 rfl (lv_at hl 2 rfl) ?_
      refine lv_aload_n S.1 S.2.1 dX6_writeView_41 rfl (lv_at hl 3 rfl) ?_
      refine g_get (v := .ref (α (k3 + 8))) S hK hP ((hB2.other hF hd2) 0 _ rfl) rfl inX8 1 (by decide) qw185 rfl dX6_writeView_42 ?_
      refine lv_iload_n S.1 S.2.1 dX6_writeView_45 rfl (lv_at hl 0 rfl) ?_
      have hNm : (f_X6_writeStick ((S_X6_writeView_36 tx txl pNames seaO plc car bsk n (L_X6_writeView_10 tx txl pNames seaO plc car bsk n)).1) ((S_X6_writeView_36 tx txl pNames seaO plc car bsk n (L_X6_writeView_10 tx txl pNames seaO plc car bsk n)).2) pNames plc car bsk (nI n)) = (S_X6_writeView_46 tx txl pNames seaO plc car bsk n (L_X6_writeView_10 tx txl pNames seaO plc car bsk n)) := rfl
      have hCon := (c_X6_writeStick l D A w3 α (k) ((S_X6_writeView_36 tx txl pNames seaO plc car bsk n (L_X6_writeView_10 tx txl pNames seaO plc car bsk n)).1) ((S_X6_writeView_36 tx txl pNames seaO plc car bsk n (L_X6_writeView_10 tx txl pNames seaO plc car bsk n)).2) (k2) nums bNames pNames fBoats nB nP (k3 + 8) plc car bnd bsk dyL rsn (nI n) hB0 (hB1.other hF hd1) ((hB2.other hF hd2).sub 8 rfl) (by omega) (by omega))
      rw [hNm] at hCon
      refine g_aft0 (st1 := []) (g_V (As := [.ref (α (k2)), .ref (α (k3 + 8)), .int (nI n)]) (rest := []) S mi_X6_writeStick qw1423 hCon hK hP hD hE hS (hB0 0 _ rfl) rfl rfl rfl hl.1 (Nat.le_of_ble_eq_true rfl) rfl rfl ⟨(Nat.le_of_ble_eq_true rfl), (Nat.le_of_ble_eq_true rfl)⟩ ⟨(Nat.le_of_ble_eq_true rfl), (Nat.le_of_ble_eq_true rfl)⟩ dX6_writeView_46) hS rfl (fun w4 H locs hQ hP hD hS => ?_)
      have hF := hF.trans hQ.2
      have hB0 : Blk w4 k (cScribe D α k ((S_X6_writeView_46 tx txl pNames seaO plc car bsk n (L_X6_writeView_10 tx txl pNames seaO plc car bsk n)).1) ((S_X6_writeView_46 tx txl pNames seaO plc car bsk n (L_X6_writeView_10 tx txl pNames seaO plc car bsk n)).2)) := hQ.1
      refine lv_aload_n S.1 S.2.1 dX6_writeView_49 rfl (lv_at hl 3 rfl) ?_
      refine g_get (v := .ref (α (k3 + 1))) S hK hP ((hB2.other hF hd2) 0 _ rfl) rfl inX8 0 (by decide) qw181 rfl dX6_writeView_50 ?_
      refine lv_iload_n S.1 S.2.1 dX6_writeView_53 rfl (lv_at hl 0 rfl) ?_
      refine g_aftR0 (st1 := [.int (b2i (f_X2_isAtSea seaO (nI n)))]) (g_V (As := [.int (nI n)]) (rest := []) S mi_X2_isAtSea qw1453 (c_X2_isAtSea l D A w4 α (k3 + 1) boatO seaO faultO daysO backB sailB (nI n) ((hB2.other hF hd2).sub 1 rfl)) hK hP hD hE hS ((hB2.other hF hd2) 1 _ rfl) rfl rfl rfl hl.1 (Nat.le_of_ble_eq_true rfl) rfl rfl ⟨(Nat.le_of_ble_eq_true rfl), (Nat.le_of_ble_eq_true rfl)⟩ ⟨(Nat.le_of_ble_eq_true rfl), (Nat.le_of_ble_eq_true rfl)⟩ dX6_writeView_54) hS rfl (fun locs hS => ?_)
      have jn57 : ∀ (wl : va_W) (H : Heap) (locs : List Loc) (ls : Array Slot), va_P D vwCl wl H → va_D A wl → va_S A s.heap H locs → Same w wl k 3 → Blk wl k (cScribe D α k ((J_X6_writeView_57 tx txl pNames seaO plc car bsk n (L_X6_writeView_10 tx txl pNames seaO plc car bsk n)).1) ((J_X6_writeView_57 tx txl pNames seaO plc car bsk n (L_X6_writeView_10 tx txl pNames seaO plc car bsk n)).2)) → lv_has ls 4 [(3, .int (nI n)), (0, .ref (α (k))), (1, .ref (α (k2))), (2, .ref (α (k3)))] → W pg l en ({ frames := 6, cells := 0, slots := 0, locals := 132 } : Room) s mi ar below me co H locs 0 0 (MQ below (gQ D A (some (.ref (α (k + 1)))) (fun w1 => Blk w1 k (cScribe D α k ((f_X6_writeView tx txl pNames nP seaO plc car bsk).1) ((f_X6_writeView tx txl pNames nP seaO plc car bsk).2)) ∧ Same w w1 k 3)) ar s 0 0 A) (F0 mi 69 ls []) := by
        intro wl H locs ls hP hD hS hF hB0 hl
        refine lv_aload_n S.1 S.2.1 dX6_writeView_69 rfl (lv_at hl 1 rfl) ?_
        refine g_get (v := .ref (α (k + 1))) S hK hP (hB0 0 _ rfl) rfl inX6 0 (by decide) qw293 rfl dX6_writeView_70 ?_
        refine lv_bipush (v := 10) S.1 S.2.1 dX6_writeView_73 (by decide) ?_
        have hNm : (f_X1_add 2048 ((J_X6_writeView_57 tx txl pNames seaO plc car bsk n (L_X6_writeView_10 tx txl pNames seaO plc car bsk n)).1) ((J_X6_writeView_57 tx txl pNames seaO plc car bsk n (L_X6_writeView_10 tx txl pNames seaO plc car bsk n)).2) 10) = (S_X6_writeView_75 tx txl pNames seaO plc car bsk n (L_X6_writeView_10 tx txl pNames seaO plc car bsk n)) := rfl
        have hCon := (c_X1_add l D A wl α (k + 1) 2048 ((J_X6_writeView_57 tx txl pNames seaO plc car bsk n (L_X6_writeView_10 tx txl pNames seaO plc car bsk n)).1) ((J_X6_writeView_57 tx txl pNames seaO plc car bsk n (L_X6_writeView_10 tx txl pNames seaO plc car bsk n)).2) 10 (hB0.sub 1 rfl) (Nat.le_of_ble_eq_true rfl))
        rw [hNm] at hCon
        refine g_aft0 (st1 := []) (g_V (As := [.int 10]) (rest := []) S mi_X1_add qw1422 hCon hK hP hD hE hS (hB0 1 _ rfl) rfl rfl rfl hl.1 (Nat.le_of_ble_eq_true rfl) rfl rfl ⟨(Nat.le_of_ble_eq_true rfl), (Nat.le_of_ble_eq_true rfl)⟩ ⟨(Nat.le_of_ble_eq_true rfl), (Nat.le_of_ble_eq_true rfl)⟩ dX6_writeView_75) hS rfl (fun w6 H locs hQ hP hD hS => ?_)
        have hF := hF.call 1 hQ.2 (by decide)
        have hB0 : Blk w6 k (cScribe D α k ((S_X6_writeView_75 tx txl pNames seaO plc car bsk n (L_X6_writeView_10 tx txl pNames seaO plc car bsk n)).1) ((S_X6_writeView_75 tx txl pNames seaO plc car bsk n (L_X6_writeView_10 tx txl pNames seaO plc car bsk n)).2)) := hB0.splice 1 hQ.1 hQ.2 rfl (Nat.le_of_ble_eq_true rfl)
        refine lv_iinc (v := (nI (n + 1))) (lv' := [(3, .int (nI (n + 1))), (0, .ref (α (k))), (1, .ref (α (k2))), (2, .ref (α (k3)))]) S.1 S.2.1 dX6_writeView_78 hl (k := 0) rfl ((nI_succ n).symm) (by decide) rfl (fun ls hl => ?_)
        refine lv_goto (tgt := 10) S.1 S.2.1 dX6_writeView_81 (by decide) ?_
        have hL : (L_X6_writeView_10 tx txl pNames seaO plc car bsk (n + 1)) = ((S_X6_writeView_75 tx txl pNames seaO plc car bsk n (L_X6_writeView_10 tx txl pNames seaO plc car bsk n)).1, (S_X6_writeView_75 tx txl pNames seaO plc car bsk n (L_X6_writeView_10 tx txl pNames seaO plc car bsk n)).2) := (iter_s _ _ _).trans (show (G_X6_writeView_10 tx txl pNames seaO plc car bsk n (L_X6_writeView_10 tx txl pNames seaO plc car bsk n)) = ((S_X6_writeView_75 tx txl pNames seaO plc car bsk n (L_X6_writeView_10 tx txl pNames seaO plc car bsk n)).1, (S_X6_writeView_75 tx txl pNames seaO plc car bsk n (L_X6_writeView_10 tx txl pNames seaO plc car bsk n)).2) from rfl)
        refine ih (n + 1) (lp_n hn) _ _ _ _ hP hD hS hF ?_ ?_
        · rw [hL]; (try dsimp only); exact hB0
        · exact lv_sub hl [0, 1, 2, 3] rfl
      refine g_bifeq (b := (f_X2_isAtSea seaO (nI n))) (tgt := 69) S dX6_writeView_57 (by decide) (fun (c3 : (f_X2_isAtSea seaO (nI n)) = false) => ?_) (fun (c3 : (f_X2_isAtSea seaO (nI n)) = true) => ?_)
      · skip
        have hJ : (J_X6_writeView_57 tx txl pNames seaO plc car bsk n (L_X6_writeView_10 tx txl pNames seaO plc car bsk n)) = ((S_X6_writeView_46 tx txl pNames seaO plc car bsk n (L_X6_writeView_10 tx txl pNames seaO plc car bsk n)).1, (S_X6_writeView_46 tx txl pNames seaO plc car bsk n (L_X6_writeView_10 tx txl pNames seaO plc car bsk n)).2) := cd_f c3
        have qj := jn57
        rw [hJ] at qj
        (try dsimp only at qj)
        exact qj _ _ _ _ hP hD hS hF hB0 (lv_sub hl [0, 1, 2, 3] rfl)
      · refine lv_aload_n S.1 S.2.1 dX6_writeView_60 rfl (lv_at hl 1 rfl) ?_
        refine g_get (v := .ref (α (k + 1))) S hK hP (hB0 0 _ rfl) rfl inX6 0 (by decide) qw293 rfl dX6_writeView_61 ?_
        refine va_ldcS (own := RX6) (q := D.2 200 14) S.1 S.2.1 S.2.2.2.1 (ldS_14 hE) dX6_writeView_64 ?_
        have hNm : (f_X1_addText 2048 ((S_X6_writeView_46 tx txl pNames seaO plc car bsk n (L_X6_writeView_10 tx txl pNames seaO plc car bsk n)).1) ((S_X6_writeView_46 tx txl pNames seaO plc car bsk n (L_X6_writeView_10 tx txl pNames seaO plc car bsk n)).2) 14) = (S_X6_writeView_66 tx txl pNames seaO plc car bsk n (L_X6_writeView_10 tx txl pNames seaO plc car bsk n)) := rfl
        have hCon := (c_X1_addText l D A w4 α (k + 1) 2048 ((S_X6_writeView_46 tx txl pNames seaO plc car bsk n (L_X6_writeView_10 tx txl pNames seaO plc car bsk n)).1) ((S_X6_writeView_46 tx txl pNames seaO plc car bsk n (L_X6_writeView_10 tx txl pNames seaO plc car bsk n)).2) 14 (hB0.sub 1 rfl) (Nat.le_of_ble_eq_true rfl) (by decide))
        rw [hNm] at hCon
        refine g_aft0 (st1 := []) (g_V (As := [.ref (D.2 200 14)]) (rest := []) S mi_X1_addText qw1437 hCon hK hP hD hE hS (hB0 1 _ rfl) rfl rfl rfl hl.1 (Nat.le_of_ble_eq_true rfl) rfl rfl ⟨(Nat.le_of_ble_eq_true rfl), (Nat.le_of_ble_eq_true rfl)⟩ ⟨(Nat.le_of_ble_eq_true rfl), (Nat.le_of_ble_eq_true rfl)⟩ dX6_writeView_66) hS rfl (fun w5 H locs hQ hP hD hS => ?_)
        have hF := hF.call 1 hQ.2 (by decide)
        have hB0 : Blk w5 k (cScribe D α k ((S_X6_writeView_66 tx txl pNames seaO plc car bsk n (L_X6_writeView_10 tx txl pNames seaO plc car bsk n)).1) ((S_X6_writeView_66 tx txl pNames seaO plc car bsk n (L_X6_writeView_10 tx txl pNames seaO plc car bsk n)).2)) := hB0.splice 1 hQ.1 hQ.2 rfl (Nat.le_of_ble_eq_true rfl)
        have hJ : (J_X6_writeView_57 tx txl pNames seaO plc car bsk n (L_X6_writeView_10 tx txl pNames seaO plc car bsk n)) = ((S_X6_writeView_66 tx txl pNames seaO plc car bsk n (L_X6_writeView_10 tx txl pNames seaO plc car bsk n)).1, (S_X6_writeView_66 tx txl pNames seaO plc car bsk n (L_X6_writeView_10 tx txl pNames seaO plc car bsk n)).2) := cd_t c3
        have qj := jn57
        rw [hJ] at qj
        (try dsimp only at qj)
        exact qj _ _ _ _ hP hD hS hF hB0 (lv_sub hl [0, 1, 2, 3] rfl)
  have hL0 : (L_X6_writeView_10 tx txl pNames seaO plc car bsk 0) = (tx, (S_X6_writeView_5 txl)) := iter_z _ _
  exact lp10 nP.toNatClampNeg 0 (Nat.zero_add nP.toNatClampNeg) _ _ _ _ hP hD hS hF (by rw [hL0]; (try dsimp only); exact hB0) (lv_sub hl [0, 1, 2, 3] rfl)
