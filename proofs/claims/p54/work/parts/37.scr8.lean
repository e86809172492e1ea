noncomputable def S_X6_writeSetup_5 (txl : Int32) : Int32 := (f_X1_cutTo txl 0)
noncomputable def S_X6_writeSetup_10 (tx : Nat → Int32) (txl : Int32) (nums : Nat → Int32) : (Nat → Int32) × Int32 := (f_X6_writeNumbers tx (S_X6_writeSetup_5 txl) nums)
noncomputable def S_X6_writeSetup_29 (tx : Nat → Int32) (txl : Int32) (nums : Nat → Int32) (bNames : Nat → Int32) (n : Nat) (sn : (Nat → Int32) × Int32) : (Nat → Int32) × Int32 := (f_X1_addText 2048 (sn.1) (sn.2) 27)
noncomputable def S_X6_writeSetup_41 (tx : Nat → Int32) (txl : Int32) (nums : Nat → Int32) (bNames : Nat → Int32) (n : Nat) (sn : (Nat → Int32) × Int32) : (Nat → Int32) × Int32 := (f_X1_addName 2048 ((S_X6_writeSetup_29 tx txl nums bNames n sn).1) ((S_X6_writeSetup_29 tx txl nums bNames n sn).2) (f_X7_boatName bNames (nI n)))
noncomputable def S_X6_writeSetup_50 (tx : Nat → Int32) (txl : Int32) (nums : Nat → Int32) (bNames : Nat → Int32) (n : Nat) (sn : (Nat → Int32) × Int32) : (Nat → Int32) × Int32 := (f_X1_add 2048 ((S_X6_writeSetup_41 tx txl nums bNames n sn).1) ((S_X6_writeSetup_41 tx txl nums bNames n sn).2) 59)
noncomputable def G_X6_writeSetup_15 (tx : Nat → Int32) (txl : Int32) (nums : Nat → Int32) (bNames : Nat → Int32) (n : Nat) (sn : (Nat → Int32) × Int32) : (Nat → Int32) × Int32 := ((S_X6_writeSetup_50 tx txl nums bNames n sn).1, (S_X6_writeSetup_50 tx txl nums bNames n sn).2)
noncomputable def L_X6_writeSetup_15 (tx : Nat → Int32) (txl : Int32) (nums : Nat → Int32) (bNames : Nat → Int32) : Nat → (Nat → Int32) × Int32 := iter_ (G_X6_writeSetup_15 tx txl nums bNames) ((S_X6_writeSetup_10 tx txl nums).1, (S_X6_writeSetup_10 tx txl nums).2)
noncomputable def S_X6_writeSetup_73 (tx : Nat → Int32) (txl : Int32) (nums : Nat → Int32) (bNames : Nat → Int32) (pNames : Nat → Int32) (nB : Int32) (boatO : Nat → Int32) (n : Nat) (sn : (Nat → Int32) × Int32) : (Nat → Int32) × Int32 := (f_X6_writePerson (sn.1) (sn.2) bNames pNames boatO (nI n))
noncomputable def G_X6_writeSetup_61 (tx : Nat → Int32) (txl : Int32) (nums : Nat → Int32) (bNames : Nat → Int32) (pNames : Nat → Int32) (nB : Int32) (boatO : Nat → Int32) (n : Nat) (sn : (Nat → Int32) × Int32) : (Nat → Int32) × Int32 := ((S_X6_writeSetup_73 tx txl nums bNames pNames nB boatO n sn).1, (S_X6_writeSetup_73 tx txl nums bNames pNames nB boatO n sn).2)
noncomputable def L_X6_writeSetup_61 (tx : Nat → Int32) (txl : Int32) (nums : Nat → Int32) (bNames : Nat → Int32) (pNames : Nat → Int32) (nB : Int32) (boatO : Nat → Int32) : Nat → (Nat → Int32) × Int32 := iter_ (G_X6_writeSetup_61 tx txl nums bNames pNames nB boatO) ((L_X6_writeSetup_15 tx txl nums bNames nB.toNatClampNeg).1, (L_X6_writeSetup_15 tx txl nums bNames nB.toNatClampNeg).2)
noncomputable def f_X6_writeSetup (tx : Nat → Int32) (txl : Int32) (nums : Nat → Int32) (bNames : Nat → Int32) (pNames : Nat → Int32) (nB : Int32) (nP : Int32) (boatO : Nat → Int32) : (Nat → Int32) × Int32 := ((L_X6_writeSetup_61 tx txl nums bNames pNames nB boatO nP.toNatClampNeg).1, (L_X6_writeSetup_61 tx txl nums bNames pNames nB boatO nP.toNatClampNeg).2)
set_option maxHeartbeats 4000000 in
set_option maxRecDepth 100000 in
theorem c_X6_writeSetup (l : Launch) (D : va_G) (A : Nat → Prop) (w : va_W) (α : Nat → Nat) (k : Nat) (tx : Nat → Int32) (txl : Int32) (k2 : Nat) (nums : Nat → Int32) (bNames : Nat → Int32) (pNames : Nat → Int32) (fBoats : Nat → Int32) (nB : Int32) (nP : Int32) (k3 : Nat) (boatO : Nat → Int32) (seaO : Nat → Int32) (faultO : Nat → Int32) (daysO : Nat → Int32) (backB : Nat → Int32) (sailB : Nat → Int32) (hB0 : Blk w k (cScribe D α k tx txl)) (hB1 : Blk w k2 (cSetup D α k2 nums bNames pNames fBoats nB nP)) (hB2 : Blk w k3 (cFleet D α k3 boatO seaO faultO daysO backB sailB)) (hd1 : k2 + 5 ≤ k ∨ k + 3 ≤ k2) (hd2 : k3 + 7 ≤ k ∨ k + 3 ≤ k3) : Met l yX6_writeSetup (ws_ yX6_writeSetup cX6_writeSetup 4 (some (.object "StickVotes$Bytes"))) ({ frames := 6, cells := 0, slots := 0, locals := 131 }) (gPre D A [.ref (α (k)), .ref (α (k2)), .ref (α (k3))] w) (gQ D A (some (.ref (α (k + 1)))) (fun w1 => Blk w1 k (cScribe D α k ((f_X6_writeSetup tx txl nums bNames pNames nB nP boatO).1) ((f_X6_writeSetup tx txl nums bNames pNames nB nP boatO).2)) ∧ Same w w1 k 3)) 0 0 A := by
  refine g_met [(0, .ref (α (k))), (1, .ref (α (k2))), (2, .ref (α (k3)))] (plainFor_of_name (by decide)) (Nat.le_of_ble_eq_true rfl) rfl (fun pg en s mi ar below me co ls S hK hP hD hE hS hr hlk hnm hl => ?_)
  have hF : Same w w k 3 := Same.rf
  refine lv_aload_n S.1 S.2.1 dX6_writeSetup_0 rfl (lv_at hl 0 rfl) ?_
  refine g_get (v := .ref (α (k + 1))) S hK hP (hB0 0 _ rfl) rfl inX6 0 (by decide) qw293 rfl dX6_writeSetup_1 ?_
  refine lv_iconst (v := 0) S.1 S.2.1 dX6_writeSetup_4 (by decide) ?_
  have hNm : (f_X1_cutTo txl 0) = (S_X6_writeSetup_5 txl) := rfl
  have hCon := (c_X1_cutTo l D A w α (k + 1) 2048 tx txl 0 (hB0.sub 1 rfl))
  rw [hNm] at hCon
  refine g_aft0 (st1 := []) (g_V (As := [.int 0]) (rest := []) S mi_X1_cutTo qw1412 hCon hK hP hD hE hS (hB0 1 _ rfl) rfl rfl rfl hl.1 (Nat.le_of_ble_eq_true rfl) rfl rfl ⟨(Nat.le_of_ble_eq_true rfl), (Nat.le_of_ble_eq_true rfl)⟩ ⟨(Nat.le_of_ble_eq_true rfl), (Nat.le_of_ble_eq_true rfl)⟩ dX6_writeSetup_5) hS rfl (fun w1 H locs hQ hP hD hS => ?_)
  have hF := hF.call 1 hQ.2 (by decide)
  have hB0 : Blk w1 k (cScribe D α k tx (S_X6_writeSetup_5 txl)) := hB0.splice 1 hQ.1 hQ.2 rfl (Nat.le_of_ble_eq_true rfl)
  refine lv_aload_n S.1 S.2.1 dX6_writeSetup_8 rfl (lv_at hl 0 rfl) ?_
  refine lv_aload_n S.1 S.2.1 dX6_writeSetup_9 rfl (lv_at hl 1 rfl) ?_
  have hNm : (f_X6_writeNumbers tx (S_X6_writeSetup_5 txl) nums) = (S_X6_writeSetup_10 tx txl nums) := rfl
  have hCon := (c_X6_writeNumbers l D A w1 α (k) tx (S_X6_writeSetup_5 txl) (k2) nums bNames pNames fBoats nB nP hB0 (hB1.other hF hd1) (by omega))
  rw [hNm] at hCon
  refine g_aft0 (st1 := []) (g_V (As := [.ref (α (k2))]) (rest := []) S mi_X6_writeNumbers qw1487 hCon hK hP hD hE hS (hB0 0 _ rfl) rfl rfl rfl hl.1 (Nat.le_of_ble_eq_true rfl) rfl rfl ⟨(Nat.le_of_ble_eq_true rfl), (Nat.le_of_ble_eq_true rfl)⟩ ⟨(Nat.le_of_ble_eq_true rfl), (Nat.le_of_ble_eq_true rfl)⟩ dX6_writeSetup_10) hS rfl (fun w2 H locs hQ hP hD hS => ?_)
  have hF := hF.trans hQ.2
  have hB0 : Blk w2 k (cScribe D α k ((S_X6_writeSetup_10 tx txl nums).1) ((S_X6_writeSetup_10 tx txl nums).2)) := hQ.1
  refine lv_iconst (v := 0) S.1 S.2.1 dX6_writeSetup_13 (by decide) ?_
  refine lv_istore_n (lv' := [(3, .int 0), (0, .ref (α (k))), (1, .ref (α (k2))), (2, .ref (α (k3)))]) S.1 S.2.1 dX6_writeSetup_14 rfl hl (by decide) rfl (fun ls hl => ?_)
  have lp15 : ∀ (j n : Nat), n + j = nB.toNatClampNeg → ∀ (wl : va_W) (H : Heap) (locs : List Loc) (ls : Array Slot), va_P D vwCl wl H → va_D A wl → va_S A s.heap H locs → Same w wl k 3 → Blk wl k (cScribe D α k ((L_X6_writeSetup_15 tx txl nums bNames n).1) ((L_X6_writeSetup_15 tx txl nums bNames n).2)) → lv_has ls 4 [(3, .int (nI n)), (0, .ref (α (k))), (1, .ref (α (k2))), (2, .ref (α (k3)))] → W pg l en ({ frames := 6, cells := 0, slots := 0, locals := 131 } : Room) s mi ar below me co H locs 0 0 (MQ below (gQ D A (some (.ref (α (k + 1)))) (fun w1 => Blk w1 k (cScribe D α k ((f_X6_writeSetup tx txl nums bNames pNames nB nP boatO).1) ((f_X6_writeSetup tx txl nums bNames pNames nB nP boatO).2)) ∧ Same w w1 k 3)) ar s 0 0 A) (F0 mi 15 ls []) := by
    intro j
    induction j with
    | zero =>
      intro n hn wl H locs ls hP hD hS hF hB0 hl
      have hn : nB.toNatClampNeg = n := hn.symm
      subst hn
      refine lv_iload_n S.1 S.2.1 dX6_writeSetup_15 rfl (lv_at hl 0 rfl) ?_
      refine lv_aload_n S.1 S.2.1 dX6_writeSetup_16 rfl (lv_at hl 2 rfl) ?_
      refine g_aftR0 (st1 := [.int nB, .int (nI nB.toNatClampNeg)]) (g_V (As := []) (rest := [.int (nI nB.toNatClampNeg)]) S mi_X7_boats qw1499 (c_X7_boats l D A wl α (k2) nums bNames pNames fBoats nB nP (hB1.other hF hd1)) hK hP hD hE hS ((hB1.other hF hd1) 0 _ rfl) rfl rfl rfl hl.1 (Nat.le_of_ble_eq_true rfl) rfl rfl ⟨(Nat.le_of_ble_eq_true rfl), (Nat.le_of_ble_eq_true rfl)⟩ ⟨(Nat.le_of_ble_eq_true rfl), (Nat.le_of_ble_eq_true rfl)⟩ dX6_writeSetup_17) hS rfl (fun locs hS => ?_)
      refine lv_icmp_ge (tgt := 59) S.1 S.2.1 dX6_writeSetup_20 (by decide) (fun (c1 : nB ≤ (nI nB.toNatClampNeg)) => ?_) (fun (c1 : ¬ nB ≤ (nI nB.toNatClampNeg)) => absurd c1 (lp_out0 (rfl)))
      refine lv_iconst (v := 0) S.1 S.2.1 dX6_writeSetup_59 (by decide) ?_
      refine lv_istore_n (lv' := [(3, .int 0), (0, .ref (α (k))), (1, .ref (α (k2))), (2, .ref (α (k3)))]) S.1 S.2.1 dX6_writeSetup_60 rfl hl (by decide) rfl (fun ls hl => ?_)
      have lp61 : ∀ (j n : Nat), n + j = nP.toNatClampNeg → ∀ (wl : va_W) (H : Heap) (locs : List Loc) (ls : Array Slot), va_P D vwCl wl H → va_D A wl → va_S A s.heap H locs → Same w wl k 3 → Blk wl k (cScribe D α k ((L_X6_writeSetup_61 tx txl nums bNames pNames nB boatO n).1) ((L_X6_writeSetup_61 tx txl nums bNames pNames nB boatO n).2)) → lv_has ls 4 [(3, .int (nI n)), (0, .ref (α (k))), (1, .ref (α (k2))), (2, .ref (α (k3)))] → W pg l en ({ frames := 6, cells := 0, slots := 0, locals := 131 } : Room) s mi ar below me co H locs 0 0 (MQ below (gQ D A (some (.ref (α (k + 1)))) (fun w1 => Blk w1 k (cScribe D α k ((f_X6_writeSetup tx txl nums bNames pNames nB nP boatO).1) ((f_X6_writeSetup tx txl nums bNames pNames nB nP boatO).2)) ∧ Same w w1 k 3)) ar s 0 0 A) (F0 mi 61 ls []) := by
        intro j
        induction j with
        | zero =>
          intro n hn wl H locs ls hP hD hS hF hB0 hl
          have hn : nP.toNatClampNeg = n := hn.symm
          subst hn
          refine lv_iload_n S.1 S.2.1 dX6_writeSetup_61 rfl (lv_at hl 0 rfl) ?_
          refine lv_aload_n S.1 S.2.1 dX6_writeSetup_62 rfl (lv_at hl 2 rfl) ?_
          refine g_aftR0 (st1 := [.int nP, .int (nI nP.toNatClampNeg)]) (g_V (As := []) (rest := [.int (nI nP.toNatClampNeg)]) S mi_X7_people qw1413 (c_X7_people l D A wl α (k2) nums bNames pNames fBoats nB nP (hB1.other hF hd1)) hK hP hD hE hS ((hB1.other hF hd1) 0 _ rfl) rfl rfl rfl hl.1 (Nat.le_of_ble_eq_true rfl) rfl rfl ⟨(Nat.le_of_ble_eq_true rfl), (Nat.le_of_ble_eq_true rfl)⟩ ⟨(Nat.le_of_ble_eq_true rfl), (Nat.le_of_ble_eq_true rfl)⟩ dX6_writeSetup_63) hS rfl (fun locs hS => ?_)
          refine lv_icmp_ge (tgt := 82) S.1 S.2.1 dX6_writeSetup_66 (by decide) (fun (c2 : nP ≤ (nI nP.toNatClampNeg)) => ?_) (fun (c2 : ¬ nP ≤ (nI nP.toNatClampNeg)) => absurd c2 (lp_out0 (rfl)))
          refine lv_aload_n S.1 S.2.1 dX6_writeSetup_82 rfl (lv_at hl 1 rfl) ?_
          refine g_get (v := .ref (α (k + 1))) S hK hP (hB0 0 _ rfl) rfl inX6 0 (by decide) qw293 rfl dX6_writeSetup_83 ?_
          have hf : (f_X6_writeSetup tx txl nums bNames pNames nB nP boatO) = ((L_X6_writeSetup_61 tx txl nums bNames pNames nB boatO nP.toNatClampNeg).1, (L_X6_writeSetup_61 tx txl nums bNames pNames nB boatO nP.toNatClampNeg).2) := rfl
          exact g_aret S hr hlk hP hD hS (rfl) (⟨by rw [hf]; dsimp only; exact hB0, hF⟩) dX6_writeSetup_86
        | succ j ih =>
          intro n hn wl H locs ls hP hD hS hF hB0 hl
          refine lv_iload_n S.1 S.2.1 dX6_writeSetup_61 rfl (lv_at hl 0 rfl) ?_
          refine lv_aload_n S.1 S.2.1 dX6_writeSetup_62 rfl (lv_at hl 2 rfl) ?_
          refine g_aftR0 (st1 := [.int nP, .int (nI n)]) (g_V (As := []) (rest := [.int (nI n)]) S mi_X7_people qw1413 (c_X7_people l D A wl α (k2) nums bNames pNames fBoats nB nP (hB1.other hF hd1)) hK hP hD hE hS ((hB1.other hF hd1) 0 _ rfl) rfl rfl rfl hl.1 (Nat.le_of_ble_eq_true rfl) rfl rfl ⟨(Nat.le_of_ble_eq_true rfl), (Nat.le_of_ble_eq_true rfl)⟩ ⟨(Nat.le_of_ble_eq_true rfl), (Nat.le_of_ble_eq_true rfl)⟩ dX6_writeSetup_63) hS rfl (fun locs hS => ?_)
          refine lv_icmp_ge (tgt := 82) S.1 S.2.1 dX6_writeSetup_66 (by decide) (fun (c3 : nP ≤ (nI n)) => absurd c3 (lp_in0 (rfl) hn)) (fun (c3 : ¬ nP ≤ (nI n)) => ?_)
          refine lv_aload_n S.1 S.2.1 dX6_writeSetup_69 rfl (lv_at hl 1 rfl) ?_
          refine lv_aload_n S.1 S.2.1 dX6_writeSetup_70 rfl (lv_at hl 2 rfl) ?_
          refine lv_aload_n S.1 S.2.1 dX6_writeSetup_71 rfl (lv_at hl 3 rfl) ?_
          refine lv_iload_n S.1 S.2.1 dX6_writeSetup_72 rfl (lv_at hl 0 rfl) ?_
          have hNm : (f_X6_writePerson ((L_X6_writeSetup_61 tx txl nums bNames pNames nB boatO n).1) ((L_X6_writeSetup_61 tx txl nums bNames pNames nB boatO n).2) bNames pNames boatO (nI n)) = (S_X6_writeSetup_73 tx txl nums bNames pNames nB boatO n (L_X6_writeSetup_61 tx txl nums bNames pNames nB boatO n)) := rfl
          have hCon := (c_X6_writePerson l D A wl α (k) ((L_X6_writeSetup_61 tx txl nums bNames pNames nB boatO n).1) ((L_X6_writeSetup_61 tx txl nums bNames pNames nB boatO n).2) (k2) nums bNames pNames fBoats nB nP (k3) boatO seaO faultO daysO backB sailB (nI n) hB0 (hB1.other hF hd1) (hB2.other hF hd2) (by omega) (by omega))
          rw [hNm] at hCon
          refine g_aft0 (st1 := []) (g_V (As := [.ref (α (k2)), .ref (α (k3)), .int (nI n)]) (rest := []) S mi_X6_writePerson qw1505 hCon hK hP hD hE hS (hB0 0 _ rfl) rfl rfl rfl hl.1 (Nat.le_of_ble_eq_true rfl) rfl rfl ⟨(Nat.le_of_ble_eq_true rfl), (Nat.le_of_ble_eq_true rfl)⟩ ⟨(Nat.le_of_ble_eq_true rfl), (Nat.le_of_ble_eq_true rfl)⟩ dX6_writeSetup_73) hS rfl (fun w3 H locs hQ hP hD hS => ?_)
          have hF := hF.trans hQ.2
          have hB0 : Blk w3 k (cScribe D α k ((S_X6_writeSetup_73 tx txl nums bNames pNames nB boatO n (L_X6_writeSetup_61 tx txl nums bNames pNames nB boatO n)).1) ((S_X6_writeSetup_73 tx txl nums bNames pNames nB boatO n (L_X6_writeSetup_61 tx txl nums bNames pNames nB boatO n)).2)) := hQ.1
          refine lv_iinc (v := (nI (n + 1))) (lv' := [(3, .int (nI (n + 1))), (0, .ref (α (k))), (1, .ref (α (k2))), (2, .ref (α (k3)))]) S.1 S.2.1 dX6_writeSetup_76 hl (k := 0) rfl ((nI_succ n).symm) (by decide) rfl (fun ls hl => ?_)
          refine lv_goto (tgt := 61) S.1 S.2.1 dX6_writeSetup_79 (by decide) ?_
          have hL : (L_X6_writeSetup_61 tx txl nums bNames pNames nB boatO (n + 1)) = ((S_X6_writeSetup_73 tx txl nums bNames pNames nB boatO n (L_X6_writeSetup_61 tx txl nums bNames pNames nB boatO n)).1, (S_X6_writeSetup_73 tx txl nums bNames pNames nB boatO n (L_X6_writeSetup_61 tx txl nums bNames pNames nB boatO n)).2) := (iter_s _ _ _).trans (show (G_X6_writeSetup_61 tx txl nums bNames pNames nB boatO n (L_X6_writeSetup_61 tx txl nums bNames pNames nB boatO n)) = ((S_X6_writeSetup_73 tx txl nums bNames pNames nB boatO n (L_X6_writeSetup_61 tx txl nums bNames pNames nB boatO n)).1, (S_X6_writeSetup_73 tx txl nums bNames pNames nB boatO n (L_X6_writeSetup_61 tx txl nums bNames pNames nB boatO n)).2) from rfl)
          refine ih (n + 1) (lp_n hn) _ _ _ _ hP hD hS hF ?_ ?_
          · rw [hL]; (try dsimp only); exact hB0
          · exact lv_sub hl [0, 1, 2, 3] rfl
      have hL0 : (L_X6_writeSetup_61 tx txl nums bNames pNames nB boatO 0) = ((L_X6_writeSetup_15 tx txl nums bNames nB.toNatClampNeg).1, (L_X6_writeSetup_15 tx txl nums bNames nB.toNatClampNeg).2) := iter_z _ _
      exact lp61 nP.toNatClampNeg 0 (Nat.zero_add nP.toNatClampNeg) _ _ _ _ hP hD hS hF (by rw [hL0]; (try dsimp only); exact hB0) (lv_sub hl [0, 1, 2, 3] rfl)
    | succ j ih =>
      intro n hn wl H locs ls hP hD hS hF hB0 hl
      refine lv_iload_n S.1 S.2.1 dX6_writeSetup_15 rfl (lv_at hl 0 rfl) ?_
      refine lv_aload_n S.1 S.2.1 dX6_writeSetup_16 rfl (lv_at hl 2 rfl) ?_
      refine g_aftR0 (st1 := [.int nB, .int (nI n)]) (g_V (As := []) (rest := [.int (nI n)]) S mi_X7_boats qw1499 (c_X7_boats l D A wl α (k2) nums bNames pNames fBoats nB nP (hB1.other hF hd1)) hK hP hD hE hS ((hB1.other hF hd1) 0 _ rfl) rfl rfl rfl hl.1 (Nat.le_of_ble_eq_true rfl) rfl rfl ⟨(Nat.le_of_ble_eq_true rfl), (Nat.le_of_ble_eq_true rfl)⟩ ⟨(Nat.le_of_ble_eq_true rfl), (Nat.le_of_ble_eq_true rfl)⟩ dX6_writeSetup_17) hS rfl (fun locs hS => ?_)
      refine lv_icmp_ge (tgt := 59) S.1 S.2.1 dX6_writeSetup_20 (by decide) (fun (c4 : nB ≤ (nI n)) => absurd c4 (lp_in0 (rfl) hn)) (fun (c4 : ¬ nB ≤ (nI n)) => ?_)
      refine lv_aload_n S.1 S.2.1 dX6_writeSetup_23 rfl (lv_at hl 1 rfl) ?_
      refine g_get (v := .ref (α (k + 1))) S hK hP (hB0 0 _ rfl) rfl inX6 0 (by decide) qw293 rfl dX6_writeSetup_24 ?_
      refine va_ldcS (own := RX6) (q := D.2 200 27) S.1 S.2.1 S.2.2.2.1 (ldS_28 hE) dX6_writeSetup_27 ?_
      have hNm : (f_X1_addText 2048 ((L_X6_writeSetup_15 tx txl nums bNames n).1) ((L_X6_writeSetup_15 tx txl nums bNames n).2) 27) = (S_X6_writeSetup_29 tx txl nums bNames n (L_X6_writeSetup_15 tx txl nums bNames n)) := rfl
      have hCon := (c_X1_addText l D A wl α (k + 1) 2048 ((L_X6_writeSetup_15 tx txl nums bNames n).1) ((L_X6_writeSetup_15 tx txl nums bNames n).2) 27 (hB0.sub 1 rfl) (Nat.le_of_ble_eq_true rfl) (by decide))
      rw [hNm] at hCon
      refine g_aft0 (st1 := []) (g_V (As := [.ref (D.2 200 27)]) (rest := []) S mi_X1_addText qw1437 hCon hK hP hD hE hS (hB0 1 _ rfl) rfl rfl rfl hl.1 (Nat.le_of_ble_eq_true rfl) rfl rfl ⟨(Nat.le_of_ble_eq_true rfl), (Nat.le_of_ble_eq_true rfl)⟩ ⟨(Nat.le_of_ble_eq_true rfl), (Nat.le_of_ble_eq_true rfl)⟩ dX6_writeSetup_29) hS rfl (fun w4 H locs hQ hP hD hS => ?_)
      have hF := hF.call 1 hQ.2 (by decide)
      have hB0 : Blk w4 k (cScribe D α k ((S_X6_writeSetup_29 tx txl nums bNames n (L_X6_writeSetup_15 tx txl nums bNames n)).1) ((S_X6_writeSetup_29 tx txl nums bNames n (L_X6_writeSetup_15 tx txl nums bNames n)).2)) := hB0.splice 1 hQ.1 hQ.2 rfl (Nat.le_of_ble_eq_true rfl)
      refine lv_aload_n S.1 S.2.1 dX6_writeSetup_32 rfl (lv_at hl 1 rfl) ?_
      refine g_get (v := .ref (α (k + 1))) S hK hP (hB0 0 _ rfl) rfl inX6 0 (by decide) qw293 rfl dX6_writeSetup_33 ?_
      refine lv_aload_n S.1 S.2.1 dX6_writeSetup_36 rfl (lv_at hl 2 rfl) ?_
      refine lv_iload_n S.1 S.2.1 dX6_writeSetup_37 rfl (lv_at hl 0 rfl) ?_
      refine g_aftR0 (st1 := [.int (f_X7_boatName bNames (nI n)), .ref (α (k + 1))]) (g_V (As := [.int (nI n)]) (rest := [.ref (α (k + 1))]) S mi_X7_boatName qw1501 (c_X7_boatName l D A w4 α (k2) nums bNames pNames fBoats nB nP (nI n) (hB1.other hF hd1)) hK hP hD hE hS ((hB1.other hF hd1) 0 _ rfl) rfl rfl rfl hl.1 (Nat.le_of_ble_eq_true rfl) rfl rfl ⟨(Nat.le_of_ble_eq_true rfl), (Nat.le_of_ble_eq_true rfl)⟩ ⟨(Nat.le_of_ble_eq_true rfl), (Nat.le_of_ble_eq_true rfl)⟩ dX6_writeSetup_38) hS rfl (fun locs hS => ?_)
      have hNm : (f_X1_addName 2048 ((S_X6_writeSetup_29 tx txl nums bNames n (L_X6_writeSetup_15 tx txl nums bNames n)).1) ((S_X6_writeSetup_29 tx txl nums bNames n (L_X6_writeSetup_15 tx txl nums bNames n)).2) (f_X7_boatName bNames (nI n))) = (S_X6_writeSetup_41 tx txl nums bNames n (L_X6_writeSetup_15 tx txl nums bNames n)) := rfl
      have hCon := (c_X1_addName l D A w4 α (k + 1) 2048 ((S_X6_writeSetup_29 tx txl nums bNames n (L_X6_writeSetup_15 tx txl nums bNames n)).1) ((S_X6_writeSetup_29 tx txl nums bNames n (L_X6_writeSetup_15 tx txl nums bNames n)).2) (f_X7_boatName bNames (nI n)) (hB0.sub 1 rfl) (Nat.le_of_ble_eq_true rfl))
      rw [hNm] at hCon
      refine g_aft0 (st1 := []) (g_V (As := [.int (f_X7_boatName bNames (nI n))]) (rest := []) S mi_X1_addName qw1418 hCon hK hP hD hE hS (hB0 1 _ rfl) rfl rfl rfl hl.1 (Nat.le_of_ble_eq_true rfl) rfl rfl ⟨(Nat.le_of_ble_eq_true rfl), (Nat.le_of_ble_eq_true rfl)⟩ ⟨(Nat.le_of_ble_eq_true rfl), (Nat.le_of_ble_eq_true rfl)⟩ dX6_writeSetup_41) hS rfl (fun w5 H locs hQ hP hD hS => ?_)
      have hF := hF.call 1 hQ.2 (by decide)
      have hB0 : Blk w5 k (cScribe D α k ((S_X6_writeSetup_41 tx txl nums bNames n (L_X6_writeSetup_15 tx txl nums bNames n)).1) ((S_X6_writeSetup_41 tx txl nums bNames n (L_X6_writeSetup_15 tx txl nums bNames n)).2)) := hB0.splice 1 hQ.1 hQ.2 rfl (Nat.le_of_ble_eq_true rfl)
      refine lv_aload_n S.1 S.2.1 dX6_writeSetup_44 rfl (lv_at hl 1 rfl) ?_
      refine g_get (v := .ref (α (k + 1))) S hK hP (hB0 0 _ rfl) rfl inX6 0 (by decide) qw293 rfl dX6_writeSetup_45 ?_
      refine lv_bipush (v := 59) S.1 S.2.1 dX6_writeSetup_48 (by decide) ?_
      have hNm : (f_X1_add 2048 ((S_X6_writeSetup_41 tx txl nums bNames n (L_X6_writeSetup_15 tx txl nums bNames n)).1) ((S_X6_writeSetup_41 tx txl nums bNames n (L_X6_writeSetup_15 tx txl nums bNames n)).2) 59) = (S_X6_writeSetup_50 tx txl nums bNames n (L_X6_writeSetup_15 tx txl nums bNames n)) := rfl
      have hCon := (c_X1_add l D A w5 α (k + 1) 2048 ((S_X6_writeSetup_41 tx txl nums bNames n (L_X6_writeSetup_15 tx txl nums bNames n)).1) ((S_X6_writeSetup_41 tx txl nums bNames n (L_X6_writeSetup_15 tx txl nums bNames n)).2) 59 (hB0.sub 1 rfl) (Nat.le_of_ble_eq_true rfl))
      rw [hNm] at hCon
      refine g_aft0 (st1 := []) (g_V (As := [.int 59]) (rest := []) S mi_X1_add qw1422 hCon hK hP hD hE hS (hB0 1 _ rfl) rfl rfl rfl hl.1 (Nat.le_of_ble_eq_true rfl) rfl rfl ⟨(Nat.le_of_ble_eq_true rfl), (Nat.le_of_ble_eq_true rfl)⟩ ⟨(Nat.le_of_ble_eq_true rfl), (Nat.le_of_ble_eq_true rfl)⟩ dX6_writeSetup_50) hS rfl (fun w6 H locs hQ hP hD hS => ?_)
      have hF := hF.call 1 hQ.2 (by decide)
      have hB0 : Blk w6 k (cScribe D α k ((S_X6_writeSetup_50 tx txl nums bNames n (L_X6_writeSetup_15 tx txl nums bNames n)).1) ((S_X6_writeSetup_50 tx txl nums bNames n (L_X6_writeSetup_15 tx txl nums bNames n)).2)) := hB0.splice 1 hQ.1 hQ.2 rfl (Nat.le_of_ble_eq_true rfl)
      refine lv_iinc (v := (nI (n + 1))) (lv' := [(3, .int (nI (n + 1))), (0, .ref (α (k))), (1, .ref (α (k2))), (2, .ref (α (k3)))]) S.1 S.2.1 dX6_writeSetup_53 hl (k := 0) rfl ((nI_succ n).symm) (by decide) rfl (fun ls hl => ?_)
      refine lv_goto (tgt := 15) S.1 S.2.1 dX6_writeSetup_56 (by decide) ?_
      have hL : (L_X6_writeSetup_15 tx txl nums bNames (n + 1)) = ((S_X6_writeSetup_50 tx txl nums bNames n (L_X6_writeSetup_15 tx txl nums bNames n)).1, (S_X6_writeSetup_50 tx txl nums bNames n (L_X6_writeSetup_15 tx txl nums bNames n)).2) := (iter_s _ _ _).trans (show (G_X6_writeSetup_15 tx txl nums bNames n (L_X6_writeSetup_15 tx txl nums bNames n)) = ((S_X6_writeSetup_50 tx txl nums bNames n (L_X6_writeSetup_15 tx txl nums bNames n)).1, (S_X6_writeSetup_50 tx txl nums bNames n (L_X6_writeSetup_15 tx txl nums bNames n)).2) from rfl)
      refine ih (n + 1) (lp_n hn) _ _ _ _ hP hD hS hF ?_ ?_
      · rw [hL]; (try dsimp only); exact hB0
      · exact lv_sub hl [0, 1, 2, 3] rfl
  have hL0 : (L_X6_writeSetup_15 tx txl nums bNames 0) = ((S_X6_writeSetup_10 tx txl nums).1, (S_X6_writeSetup_10 tx txl nums).2) := iter_z _ _
  exact lp15 nB.toNatClampNeg 0 (Nat.zero_add nB.toNatClampNeg) _ _ _ _ hP hD hS hF (by rw [hL0]; (try dsimp only); exact hB0) (lv_sub hl [0, 1, 2, 3] rfl)
