noncomputable def S_X6_writeStory_5 (txl : Int32) : Int32 := (f_X1_cutTo txl 0)
noncomputable def S_X6_writeStory_35 (tx : Nat → Int32) (txl : Int32) (r : Nat) (f : Nat → Int32) (ad : Int32) (n : Nat) (sn : (Nat → Int32) × Int32) : (Nat → Int32) × Int32 := (f_X1_addNumber 2048 (sn.1) (sn.2) (f_X5_part r f ad ((f_X5_oldest r ad) + (nI n)) 0))
noncomputable def S_X6_writeStory_44 (tx : Nat → Int32) (txl : Int32) (r : Nat) (f : Nat → Int32) (ad : Int32) (n : Nat) (sn : (Nat → Int32) × Int32) : (Nat → Int32) × Int32 := (f_X1_add 2048 ((S_X6_writeStory_35 tx txl r f ad n sn).1) ((S_X6_writeStory_35 tx txl r f ad n sn).2) 32)
noncomputable def S_X6_writeStory_60 (tx : Nat → Int32) (txl : Int32) (r : Nat) (f : Nat → Int32) (ad : Int32) (n : Nat) (sn : (Nat → Int32) × Int32) : (Nat → Int32) × Int32 := (f_X1_addText 2048 ((S_X6_writeStory_44 tx txl r f ad n sn).1) ((S_X6_writeStory_44 tx txl r f ad n sn).2) (f_X6_kindWord (f_X5_part r f ad ((f_X5_oldest r ad) + (nI n)) 1)))
noncomputable def S_X6_writeStory_70 (tx : Nat → Int32) (txl : Int32) (r : Nat) (f : Nat → Int32) (ad : Int32) (n : Nat) (sn : (Nat → Int32) × Int32) : (Nat → Int32) × Int32 := (f_X6_writeNumber ((S_X6_writeStory_60 tx txl r f ad n sn).1) ((S_X6_writeStory_60 tx txl r f ad n sn).2) (f_X5_part r f ad ((f_X5_oldest r ad) + (nI n)) 2))
noncomputable def S_X6_writeStory_80 (tx : Nat → Int32) (txl : Int32) (r : Nat) (f : Nat → Int32) (ad : Int32) (n : Nat) (sn : (Nat → Int32) × Int32) : (Nat → Int32) × Int32 := (f_X6_writeNumber ((S_X6_writeStory_70 tx txl r f ad n sn).1) ((S_X6_writeStory_70 tx txl r f ad n sn).2) (f_X5_part r f ad ((f_X5_oldest r ad) + (nI n)) 3))
noncomputable def S_X6_writeStory_89 (tx : Nat → Int32) (txl : Int32) (r : Nat) (f : Nat → Int32) (ad : Int32) (n : Nat) (sn : (Nat → Int32) × Int32) : (Nat → Int32) × Int32 := (f_X1_add 2048 ((S_X6_writeStory_80 tx txl r f ad n sn).1) ((S_X6_writeStory_80 tx txl r f ad n sn).2) 10)
noncomputable def G_X6_writeStory_10 (tx : Nat → Int32) (txl : Int32) (r : Nat) (f : Nat → Int32) (ad : Int32) (n : Nat) (sn : (Nat → Int32) × Int32) : (Nat → Int32) × Int32 := ((S_X6_writeStory_89 tx txl r f ad n sn).1, (S_X6_writeStory_89 tx txl r f ad n sn).2)
noncomputable def L_X6_writeStory_10 (tx : Nat → Int32) (txl : Int32) (r : Nat) (f : Nat → Int32) (ad : Int32) : Nat → (Nat → Int32) × Int32 := iter_ (G_X6_writeStory_10 tx txl r f ad) (tx, (S_X6_writeStory_5 txl))
noncomputable def f_X6_writeStory (tx : Nat → Int32) (txl : Int32) (r : Nat) (f : Nat → Int32) (ad : Int32) : (Nat → Int32) × Int32 := ((L_X6_writeStory_10 tx txl r f ad ((f_X5_size r ad).toNatClampNeg)).1, (L_X6_writeStory_10 tx txl r f ad ((f_X5_size r ad).toNatClampNeg)).2)
set_option maxHeartbeats 4000000 in
set_option maxRecDepth 100000 in
theorem c_X6_writeStory (l : Launch) (D : va_G) (A : Nat → Prop) (w : va_W) (α : Nat → Nat) (k : Nat) (tx : Nat → Int32) (txl : Int32) (k2 : Nat) (r : Nat) (f : Nat → Int32) (ad : Int32) (hB0 : Blk w k (cScribe D α k tx txl)) (hB1 : Blk w k2 (cRing D α k2 r f ad)) (hd1 : k2 + 2 ≤ k ∨ k + 3 ≤ k2) (hy0 : r < 1000) : Met l yX6_writeStory (ws_ yX6_writeStory cX6_writeStory 4 (some (.object "StickVotes$Bytes"))) ({ frames := 5, cells := 0, slots := 0, locals := 107 }) (gPre D A [.ref (α (k)), .ref (α (k2))] w) (gQ D A (some (.ref (α (k + 1)))) (fun w1 => Blk w1 k (cScribe D α k ((f_X6_writeStory tx txl r f ad).1) ((f_X6_writeStory tx txl r f ad).2)) ∧ Same w w1 k 3)) 0 0 A := by
  refine g_met [(0, .ref (α (k))), (1, .ref (α (k2)))] (plainFor_of_name (by decide)) (Nat.le_of_ble_eq_true rfl) rfl (fun pg en s mi ar below me co ls S hK hP hD hE hS hr hlk hnm hl => ?_)
  have hF : Same w w k 3 := Same.rf
  refine lv_aload_n S.1 S.2.1 dX6_writeStory_0 rfl (lv_at hl 0 rfl) ?_
  refine g_get (v := .ref (α (k + 1))) S hK hP (hB0 0 _ rfl) rfl inX6 0 (by decide) qw293 rfl dX6_writeStory_1 ?_
  refine lv_iconst (v := 0) S.1 S.2.1 dX6_writeStory_4 (by decide) ?_
  have hNm : (f_X1_cutTo txl 0) = (S_X6_writeStory_5 txl) := rfl
  have hCon := (c_X1_cutTo l D A w α (k + 1) 2048 tx txl 0 (hB0.sub 1 rfl))
  rw [hNm] at hCon
  refine g_aft0 (st1 := []) (g_V (As := [.int 0]) (rest := []) S mi_X1_cutTo qw1412 hCon hK hP hD hE hS (hB0 1 _ rfl) rfl rfl rfl hl.1 (Nat.le_of_ble_eq_true rfl) rfl rfl ⟨(Nat.le_of_ble_eq_true rfl), (Nat.le_of_ble_eq_true rfl)⟩ ⟨(Nat.le_of_ble_eq_true rfl), (Nat.le_of_ble_eq_true rfl)⟩ dX6_writeStory_5) hS rfl (fun w1 H locs hQ hP hD hS => ?_)
  have hF := hF.call 1 hQ.2 (by decide)
  have hB0 : Blk w1 k (cScribe D α k tx (S_X6_writeStory_5 txl)) := hB0.splice 1 hQ.1 hQ.2 rfl (Nat.le_of_ble_eq_true rfl)
  refine lv_iconst (v := 0) S.1 S.2.1 dX6_writeStory_8 (by decide) ?_
  refine lv_istore_n (lv' := [(2, .int 0), (0, .ref (α (k))), (1, .ref (α (k2)))]) S.1 S.2.1 dX6_writeStory_9 rfl hl (by decide) rfl (fun ls hl => ?_)
  have lp10 : ∀ (j n : Nat), n + j = (f_X5_size r ad).toNatClampNeg → ∀ (wl : va_W) (H : Heap) (locs : List Loc) (ls : Array Slot), va_P D vwCl wl H → va_D A wl → va_S A s.heap H locs → Same w wl k 3 → Blk wl k (cScribe D α k ((L_X6_writeStory_10 tx txl r f ad n).1) ((L_X6_writeStory_10 tx txl r f ad n).2)) → lv_has ls 4 [(2, .int (nI n)), (0, .ref (α (k))), (1, .ref (α (k2)))] → W pg l en ({ frames := 5, cells := 0, slots := 0, locals := 107 } : Room) s mi ar below me co H locs 0 0 (MQ below (gQ D A (some (.ref (α (k + 1)))) (fun w1 => Blk w1 k (cScribe D α k ((f_X6_writeStory tx txl r f ad).1) ((f_X6_writeStory tx txl r f ad).2)) ∧ Same w w1 k 3)) ar s 0 0 A) (F0 mi 10 ls []) := by
    intro j
    induction j with
    | zero =>
      intro n hn wl H locs ls hP hD hS hF hB0 hl
      have hn : (f_X5_size r ad).toNatClampNeg = n := hn.symm
      subst hn
      refine lv_iload_n S.1 S.2.1 dX6_writeStory_10 rfl (lv_at hl 0 rfl) ?_
      refine lv_aload_n S.1 S.2.1 dX6_writeStory_11 rfl (lv_at hl 2 rfl) ?_
      refine g_aftR0 (st1 := [.int (f_X5_size r ad), .int (nI ((f_X5_size r ad).toNatClampNeg))]) (g_V (As := []) (rest := [.int (nI ((f_X5_size r ad).toNatClampNeg))]) S mi_X5_size qw1463 (c_X5_size l D A wl α (k2) r f ad (hB1.other hF hd1)) hK hP hD hE hS ((hB1.other hF hd1) 0 _ rfl) rfl rfl rfl hl.1 (Nat.le_of_ble_eq_true rfl) rfl rfl ⟨(Nat.le_of_ble_eq_true rfl), (Nat.le_of_ble_eq_true rfl)⟩ ⟨(Nat.le_of_ble_eq_true rfl), (Nat.le_of_ble_eq_true rfl)⟩ dX6_writeStory_12) hS rfl (fun locs hS => ?_)
      refine lv_icmp_ge (tgt := 98) S.1 S.2.1 dX6_writeStory_15 (by decide) (fun (c1 : (f_X5_size r ad) ≤ (nI ((f_X5_size r ad).toNatClampNeg))) => ?_) (fun (c1 : ¬ (f_X5_size r ad) ≤ (nI ((f_X5_size r ad).toNatClampNeg))) => absurd c1 (lp_out0 (rfl)))
      refine lv_aload_n S.1 S.2.1 dX6_writeStory_98 rfl (lv_at hl 1 rfl) ?_
      refine g_get (v := .ref (α (k + 1))) S hK hP (hB0 0 _ rfl) rfl inX6 0 (by decide) qw293 rfl dX6_writeStory_99 ?_
      have hf : (f_X6_writeStory tx txl r f ad) = ((L_X6_writeStory_10 tx txl r f ad ((f_X5_size r ad).toNatClampNeg)).1, (L_X6_writeStory_10 tx txl r f ad ((f_X5_size r ad).toNatClampNeg)).2) := rfl
      exact g_aret S hr hlk hP hD hS (rfl) (⟨by rw [hf]; dsimp only; exact hB0, hF⟩) dX6_writeStory_102
    | succ j ih =>
      intro n hn wl H locs ls hP hD hS hF hB0 hl
      refine lv_iload_n S.1 S.2.1 dX6_writeStory_10 rfl (lv_at hl 0 rfl) ?_
      refine lv_aload_n S.1 S.2.1 dX6_writeStory_11 rfl (lv_at hl 2 rfl) ?_
      refine g_aftR0 (st1 := [.int (f_X5_size r ad), .int (nI n)]) (g_V (As := []) (rest := [.int (nI n)]) S mi_X5_size qw1463 (c_X5_size l D A wl α (k2) r f ad (hB1.other hF hd1)) hK hP hD hE hS ((hB1.other hF hd1) 0 _ rfl) rfl rfl rfl hl.1 (Nat.le_of_ble_eq_true rfl) rfl rfl ⟨(Nat.le_of_ble_eq_true rfl), (Nat.le_of_ble_eq_true rfl)⟩ ⟨(Nat.le_of_ble_eq_true rfl), (Nat.le_of_ble_eq_true rfl)⟩ dX6_writeStory_12) hS rfl (fun locs hS => ?_)
      refine lv_icmp_ge (tgt := 98) S.1 S.2.1 dX6_writeStory_15 (by decide) (fun (c2 : (f_X5_size r ad) ≤ (nI n)) => absurd c2 (lp_in0 (rfl) hn)) (fun (c2 : ¬ (f_X5_size r ad) ≤ (nI n)) => ?_)
      refine lv_aload_n S.1 S.2.1 dX6_writeStory_18 rfl (lv_at hl 2 rfl) ?_
      refine g_aftR0 (st1 := [.int (f_X5_oldest r ad)]) (g_V (As := []) (rest := []) S mi_X5_oldest qw1464 (c_X5_oldest l D A wl α (k2) r f ad (hB1.other hF hd1)) hK hP hD hE hS ((hB1.other hF hd1) 0 _ rfl) rfl rfl rfl hl.1 (Nat.le_of_ble_eq_true rfl) rfl rfl ⟨(Nat.le_of_ble_eq_true rfl), (Nat.le_of_ble_eq_true rfl)⟩ ⟨(Nat.le_of_ble_eq_true rfl), (Nat.le_of_ble_eq_true rfl)⟩ dX6_writeStory_19) hS rfl (fun locs hS => ?_)
      refine lv_iload_n S.1 S.2.1 dX6_writeStory_22 rfl (lv_at hl 0 rfl) ?_
      refine lv_iadd S.1 S.2.1 dX6_writeStory_23 ?_
      refine lv_istore_n (lv' := [(3, .int ((f_X5_oldest r ad) + (nI n))), (2, .int (nI n)), (0, .ref (α (k))), (1, .ref (α (k2)))]) S.1 S.2.1 dX6_writeStory_24 rfl hl (by decide) rfl (fun ls hl => ?_)
      refine lv_aload_n S.1 S.2.1 dX6_writeStory_25 rfl (lv_at hl 2 rfl) ?_
      refine g_get (v := .ref (α (k + 1))) S hK hP (hB0 0 _ rfl) rfl inX6 0 (by decide) qw293 rfl dX6_writeStory_26 ?_
      refine lv_aload_n S.1 S.2.1 dX6_writeStory_29 rfl (lv_at hl 3 rfl) ?_
      refine lv_iload_n S.1 S.2.1 dX6_writeStory_30 rfl (lv_at hl 0 rfl) ?_
      refine lv_iconst (v := 0) S.1 S.2.1 dX6_writeStory_31 (by decide) ?_
      refine g_aftR0 (st1 := [.int (f_X5_part r f ad ((f_X5_oldest r ad) + (nI n)) 0), .ref (α (k + 1))]) (g_V (As := [.int ((f_X5_oldest r ad) + (nI n)), .int 0]) (rest := [.ref (α (k + 1))]) S mi_X5_part qw1465 (c_X5_part l D A wl α (k2) r f ad ((f_X5_oldest r ad) + (nI n)) 0 (hB1.other hF hd1) (hy0)) hK hP hD hE hS ((hB1.other hF hd1) 0 _ rfl) rfl rfl rfl hl.1 (Nat.le_of_ble_eq_true rfl) rfl rfl ⟨(Nat.le_of_ble_eq_true rfl), (Nat.le_of_ble_eq_true rfl)⟩ ⟨(Nat.le_of_ble_eq_true rfl), (Nat.le_of_ble_eq_true rfl)⟩ dX6_writeStory_32) hS rfl (fun locs hS => ?_)
      have hNm : (f_X1_addNumber 2048 ((L_X6_writeStory_10 tx txl r f ad n).1) ((L_X6_writeStory_10 tx txl r f ad n).2) (f_X5_part r f ad ((f_X5_oldest r ad) + (nI n)) 0)) = (S_X6_writeStory_35 tx txl r f ad n (L_X6_writeStory_10 tx txl r f ad n)) := rfl
      have hCon := (c_X1_addNumber l D A wl α (k + 1) 2048 ((L_X6_writeStory_10 tx txl r f ad n).1) ((L_X6_writeStory_10 tx txl r f ad n).2) (f_X5_part r f ad ((f_X5_oldest r ad) + (nI n)) 0) (hB0.sub 1 rfl) (Nat.le_of_ble_eq_true rfl))
      rw [hNm] at hCon
      refine g_aft0 (st1 := []) (g_V (As := [.int (f_X5_part r f ad ((f_X5_oldest r ad) + (nI n)) 0)]) (rest := []) S mi_X1_addNumber qw1447 hCon hK hP hD hE hS (hB0 1 _ rfl) rfl rfl rfl hl.1 (Nat.le_of_ble_eq_true rfl) rfl rfl ⟨(Nat.le_of_ble_eq_true rfl), (Nat.le_of_ble_eq_true rfl)⟩ ⟨(Nat.le_of_ble_eq_true rfl), (Nat.le_of_ble_eq_true rfl)⟩ dX6_writeStory_35) hS rfl (fun w2 H locs hQ hP hD hS => ?_)
      have hF := hF.call 1 hQ.2 (by decide)
      have hB0 : Blk w2 k (cScribe D α k ((S_X6_writeStory_35 tx txl r f ad n (L_X6_writeStory_10 tx txl r f ad n)).1) ((S_X6_writeStory_35 tx txl r f ad n (L_X6_writeStory_10 tx txl r f ad n)).2)) := hB0.splice 1 hQ.1 hQ.2 rfl (Nat.le_of_ble_eq_true rfl)
      refine lv_aload_n S.1 S.2.1 dX6_writeStory_38 rfl (lv_at hl 2 rfl) ?_
      refine g_get (v := .ref (α (k + 1))) S hK hP (hB0 0 _ rfl) rfl inX6 0 (by decide) qw293 rfl dX6_writeStory_39 ?_
      refine lv_bipush (v := 32) S.1 S.2.1 dX6_writeStory_42 (by decide) ?_
      have hNm : (f_X1_add 2048 ((S_X6_writeStory_35 tx txl r f ad n (L_X6_writeStory_10 tx txl r f ad n)).1) ((S_X6_writeStory_35 tx txl r f ad n (L_X6_writeStory_10 tx txl r f ad n)).2) 32) = (S_X6_writeStory_44 tx txl r f ad n (L_X6_writeStory_10 tx txl r f ad n)) := rfl
      have hCon := (c_X1_add l D A w2 α (k + 1) 2048 ((S_X6_writeStory_35 tx txl r f ad n (L_X6_writeStory_10 tx txl r f ad n)).1) ((S_X6_writeStory_35 tx txl r f ad n (L_X6_writeStory_10 tx txl r f ad n)).2) 32 (hB0.sub 1 rfl) (Nat.le_of_ble_eq_true rfl))
      rw [hNm] at hCon
      refine g_aft0 (st1 := []) (g_V (As := [.int 32]) (rest := []) S mi_X1_add qw1422 hCon hK hP hD hE hS (hB0 1 _ rfl) rfl rfl rfl hl.1 (Nat.le_of_ble_eq_true rfl) rfl rfl ⟨(Nat.le_of_ble_eq_true rfl), (Nat.le_of_ble_eq_true rfl)⟩ ⟨(Nat.le_of_ble_eq_true rfl), (Nat.le_of_ble_eq_true rfl)⟩ dX6_writeStory_44) hS rfl (fun w3 H locs hQ hP hD hS => ?_)
      have hF := hF.call 1 hQ.2 (by decide)
      have hB0 : Blk w3 k (cScribe D α k ((S_X6_writeStory_44 tx txl r f ad n (L_X6_writeStory_10 tx txl r f ad n)).1) ((S_X6_writeStory_44 tx txl r f ad n (L_X6_writeStory_10 tx txl r f ad n)).2)) := hB0.splice 1 hQ.1 hQ.2 rfl (Nat.le_of_ble_eq_true rfl)
      refine lv_aload_n S.1 S.2.1 dX6_writeStory_47 rfl (lv_at hl 2 rfl) ?_
      refine g_get (v := .ref (α (k + 1))) S hK hP (hB0 0 _ rfl) rfl inX6 0 (by decide) qw293 rfl dX6_writeStory_48 ?_
      refine lv_aload_n S.1 S.2.1 dX6_writeStory_51 rfl (lv_at hl 3 rfl) ?_
      refine lv_iload_n S.1 S.2.1 dX6_writeStory_52 rfl (lv_at hl 0 rfl) ?_
      refine lv_iconst (v := 1) S.1 S.2.1 dX6_writeStory_53 (by decide) ?_
      refine g_aftR0 (st1 := [.int (f_X5_part r f ad ((f_X5_oldest r ad) + (nI n)) 1), .ref (α (k + 1))]) (g_V (As := [.int ((f_X5_oldest r ad) + (nI n)), .int 1]) (rest := [.ref (α (k + 1))]) S mi_X5_part qw1465 (c_X5_part l D A w3 α (k2) r f ad ((f_X5_oldest r ad) + (nI n)) 1 (hB1.other hF hd1) (hy0)) hK hP hD hE hS ((hB1.other hF hd1) 0 _ rfl) rfl rfl rfl hl.1 (Nat.le_of_ble_eq_true rfl) rfl rfl ⟨(Nat.le_of_ble_eq_true rfl), (Nat.le_of_ble_eq_true rfl)⟩ ⟨(Nat.le_of_ble_eq_true rfl), (Nat.le_of_ble_eq_true rfl)⟩ dX6_writeStory_54) hS rfl (fun locs hS => ?_)
      refine g_aftR0 (st1 := [.ref (D.2 200 (f_X6_kindWord (f_X5_part r f ad ((f_X5_oldest r ad) + (nI n)) 1))), .ref (α (k + 1))]) (g_St (As := [.int (f_X5_part r f ad ((f_X5_oldest r ad) + (nI n)) 1)]) (rest := [.ref (α (k + 1))]) S ms_X6_kindWord qw1470 (c_X6_kindWord l D A w3 α (f_X5_part r f ad ((f_X5_oldest r ad) + (nI n)) 1)) hK hP hD hE hS rfl rfl hl.1 (Nat.le_of_ble_eq_true rfl) rfl rfl ⟨(Nat.le_of_ble_eq_true rfl), (Nat.le_of_ble_eq_true rfl)⟩ ⟨(Nat.le_of_ble_eq_true rfl), (Nat.le_of_ble_eq_true rfl)⟩ dX6_writeStory_57) hS rfl (fun locs hS => ?_)
      have hNm : (f_X1_addText 2048 ((S_X6_writeStory_44 tx txl r f ad n (L_X6_writeStory_10 tx txl r f ad n)).1) ((S_X6_writeStory_44 tx txl r f ad n (L_X6_writeStory_10 tx txl r f ad n)).2) (f_X6_kindWord (f_X5_part r f ad ((f_X5_oldest r ad) + (nI n)) 1))) = (S_X6_writeStory_60 tx txl r f ad n (L_X6_writeStory_10 tx txl r f ad n)) := rfl
      have hCon := (c_X1_addText l D A w3 α (k + 1) 2048 ((S_X6_writeStory_44 tx txl r f ad n (L_X6_writeStory_10 tx txl r f ad n)).1) ((S_X6_writeStory_44 tx txl r f ad n (L_X6_writeStory_10 tx txl r f ad n)).2) (f_X6_kindWord (f_X5_part r f ad ((f_X5_oldest r ad) + (nI n)) 1)) (hB0.sub 1 rfl) (Nat.le_of_ble_eq_true rfl) (kindWord_lt _))
      rw [hNm] at hCon
      refine g_aft0 (st1 := []) (g_V (As := [.ref (D.2 200 (f_X6_kindWord (f_X5_part r f ad ((f_X5_oldest r ad) + (nI n)) 1)))]) (rest := []) S mi_X1_addText qw1437 hCon hK hP hD hE hS (hB0 1 _ rfl) rfl rfl rfl hl.1 (Nat.le_of_ble_eq_true rfl) rfl rfl ⟨(Nat.le_of_ble_eq_true rfl), (Nat.le_of_ble_eq_true rfl)⟩ ⟨(Nat.le_of_ble_eq_true rfl), (Nat.le_of_ble_eq_true rfl)⟩ dX6_writeStory_60) hS rfl (fun w4 H locs hQ hP hD hS => ?_)
      have hF := hF.call 1 hQ.2 (by decide)
      have hB0 : Blk w4 k (cScribe D α k ((S_X6_writeStory_60 tx txl r f ad n (L_X6_writeStory_10 tx txl r f ad n)).1) ((S_X6_writeStory_60 tx txl r f ad n (L_X6_writeStory_10 tx txl r f ad n)).2)) := hB0.splice 1 hQ.1 hQ.2 rfl (Nat.le_of_ble_eq_true rfl)
      refine lv_aload_n S.1 S.2.1 dX6_writeStory_63 rfl (lv_at hl 2 rfl) ?_
      refine lv_aload_n S.1 S.2.1 dX6_writeStory_64 rfl (lv_at hl 3 rfl) ?_
      refine lv_iload_n S.1 S.2.1 dX6_writeStory_65 rfl (lv_at hl 0 rfl) ?_
      refine lv_iconst (v := 2) S.1 S.2.1 dX6_writeStory_66 (by decide) ?_
      refine g_aftR0 (st1 := [.int (f_X5_part r f ad ((f_X5_oldest r ad) + (nI n)) 2), .ref (α (k))]) (g_V (As := [.int ((f_X5_oldest r ad) + (nI n)), .int 2]) (rest := [.ref (α (k))]) S mi_X5_part qw1465 (c_X5_part l D A w4 α (k2) r f ad ((f_X5_oldest r ad) + (nI n)) 2 (hB1.other hF hd1) (hy0)) hK hP hD hE hS ((hB1.other hF hd1) 0 _ rfl) rfl rfl rfl hl.1 (Nat.le_of_ble_eq_true rfl) rfl rfl ⟨(Nat.le_of_ble_eq_true rfl), (Nat.le_of_ble_eq_true rfl)⟩ ⟨(Nat.le_of_ble_eq_true rfl), (Nat.le_of_ble_eq_true rfl)⟩ dX6_writeStory_67) hS rfl (fun locs hS => ?_)
      have hNm : (f_X6_writeNumber ((S_X6_writeStory_60 tx txl r f ad n (L_X6_writeStory_10 tx txl r f ad n)).1) ((S_X6_writeStory_60 tx txl r f ad n (L_X6_writeStory_10 tx txl r f ad n)).2) (f_X5_part r f ad ((f_X5_oldest r ad) + (nI n)) 2)) = (S_X6_writeStory_70 tx txl r f ad n (L_X6_writeStory_10 tx txl r f ad n)) := rfl
      have hCon := (c_X6_writeNumber l D A w4 α (k) ((S_X6_writeStory_60 tx txl r f ad n (L_X6_writeStory_10 tx txl r f ad n)).1) ((S_X6_writeStory_60 tx txl r f ad n (L_X6_writeStory_10 tx txl r f ad n)).2) (f_X5_part r f ad ((f_X5_oldest r ad) + (nI n)) 2) hB0)
      rw [hNm] at hCon
      refine g_aft0 (st1 := []) (g_V (As := [.int (f_X5_part r f ad ((f_X5_oldest r ad) + (nI n)) 2)]) (rest := []) S mi_X6_writeNumber qw1443 hCon hK hP hD hE hS (hB0 0 _ rfl) rfl rfl rfl hl.1 (Nat.le_of_ble_eq_true rfl) rfl rfl ⟨(Nat.le_of_ble_eq_true rfl), (Nat.le_of_ble_eq_true rfl)⟩ ⟨(Nat.le_of_ble_eq_true rfl), (Nat.le_of_ble_eq_true rfl)⟩ dX6_writeStory_70) hS rfl (fun w5 H locs hQ hP hD hS => ?_)
      have hF := hF.trans hQ.2
      have hB0 : Blk w5 k (cScribe D α k ((S_X6_writeStory_70 tx txl r f ad n (L_X6_writeStory_10 tx txl r f ad n)).1) ((S_X6_writeStory_70 tx txl r f ad n (L_X6_writeStory_10 tx txl r f ad n)).2)) := hQ.1
      refine lv_aload_n S.1 S.2.1 dX6_writeStory_73 rfl (lv_at hl 2 rfl) ?_
      refine lv_aload_n S.1 S.2.1 dX6_writeStory_74 rfl (lv_at hl 3 rfl) ?_
      refine lv_iload_n S.1 S.2.1 dX6_writeStory_75 rfl (lv_at hl 0 rfl) ?_
      refine lv_iconst (v := 3) S.1 S.2.1 dX6_writeStory_76 (by decide) ?_
      refine g_aftR0 (st1 := [.int (f_X5_part r f ad ((f_X5_oldest r ad) + (nI n)) 3), .ref (α (k))]) (g_V (As := [.int ((f_X5_oldest r ad) + (nI n)), .int 3]) (rest := [.ref (α (k))]) S mi_X5_part qw1465 (c_X5_part l D A w5 α (k2) r f ad ((f_X5_oldest r ad) + (nI n)) 3 (hB1.other hF hd1) (hy0)) hK hP hD hE hS ((hB1.other hF hd1) 0 _ rfl) rfl rfl rfl hl.1 (Nat.le_of_ble_eq_true rfl) rfl rfl ⟨(Nat.le_of_ble_eq_true rfl), (Nat.le_of_ble_eq_true rfl)⟩ ⟨(Nat.le_of_ble_eq_true rfl), (Nat.le_of_ble_eq_true rfl)⟩ dX6_writeStory_77) hS rfl (fun locs hS => ?_)
      have hNm : (f_X6_writeNumber ((S_X6_writeStory_70 tx txl r f ad n (L_X6_writeStory_10 tx txl r f ad n)).1) ((S_X6_writeStory_70 tx txl r f ad n (L_X6_writeStory_10 tx txl r f ad n)).2) (f_X5_part r f ad ((f_X5_oldest r ad) + (nI n)) 3)) = (S_X6_writeStory_80 tx txl r f ad n (L_X6_writeStory_10 tx txl r f ad n)) := rfl
      have hCon := (c_X6_writeNumber l D A w5 α (k) ((S_X6_writeStory_70 tx txl r f ad n (L_X6_writeStory_10 tx txl r f ad n)).1) ((S_X6_writeStory_70 tx txl r f ad n (L_X6_writeStory_10 tx txl r f ad n)).2) (f_X5_part r f ad ((f_X5_oldest r ad) + (nI n)) 3) hB0)
      rw [hNm] at hCon
      refine g_aft0 (st1 := []) (g_V (As := [.int (f_X5_part r f ad ((f_X5_oldest r ad) + (nI n)) 3)]) (rest := []) S mi_X6_writeNumber qw1443 hCon hK hP hD hE hS (hB0 0 _ rfl) rfl rfl rfl hl.1 (Nat.le_of_ble_eq_true rfl) rfl rfl ⟨(Nat.le_of_ble_eq_true rfl), (Nat.le_of_ble_eq_true rfl)⟩ ⟨(Nat.le_of_ble_eq_true rfl), (Nat.le_of_ble_eq_true rfl)⟩ dX6_writeStory_80) hS rfl (fun w6 H locs hQ hP hD hS => ?_)
      have hF := hF.trans hQ.2
      have hB0 : Blk w6 k (cScribe D α k ((S_X6_writeStory_80 tx txl r f ad n (L_X6_writeStory_10 tx txl r f ad n)).1) ((S_X6_writeStory_80 tx txl r f ad n (L_X6_writeStory_10 tx txl r f ad n)).2)) := hQ.1
      refine lv_aload_n S.1 S.2.1 dX6_writeStory_83 rfl (lv_at hl 2 rfl) ?_
      refine g_get (v := .ref (α (k + 1))) S hK hP (hB0 0 _ rfl) rfl inX6 0 (by decide) qw293 rfl dX6_writeStory_84 ?_
      refine lv_bipush (v := 10) S.1 S.2.1 dX6_writeStory_87 (by decide) ?_
      have hNm : (f_X1_add 2048 ((S_X6_writeStory_80 tx txl r f ad n (L_X6_writeStory_10 tx txl r f ad n)).1) ((S_X6_writeStory_80 tx txl r f ad n (L_X6_writeStory_10 tx txl r f ad n)).2) 10) = (S_X6_writeStory_89 tx txl r f ad n (L_X6_writeStory_10 tx txl r f ad n)) := rfl
      have hCon := (c_X1_add l D A w6 α (k + 1) 2048 ((S_X6_writeStory_80 tx txl r f ad n (L_X6_writeStory_10 tx txl r f ad n)).1) ((S_X6_writeStory_80 tx txl r f ad n (L_X6_writeStory_10 tx txl r f ad n)).2) 10 (hB0.sub 1 rfl) (Nat.le_of_ble_eq_true rfl))
      rw [hNm] at hCon
      refine g_aft0 (st1 := []) (g_V (As := [.int 10]) (rest := []) S mi_X1_add qw1422 hCon hK hP hD hE hS (hB0 1 _ rfl) rfl rfl rfl hl.1 (Nat.le_of_ble_eq_true rfl) rfl rfl ⟨(Nat.le_of_ble_eq_true rfl), (Nat.le_of_ble_eq_true rfl)⟩ ⟨(Nat.le_of_ble_eq_true rfl), (Nat.le_of_ble_eq_true rfl)⟩ dX6_writeStory_89) hS rfl (fun w7 H locs hQ hP hD hS => ?_)
      have hF := hF.call 1 hQ.2 (by decide)
      have hB0 : Blk w7 k (cScribe D α k ((S_X6_writeStory_89 tx txl r f ad n (L_X6_writeStory_10 tx txl r f ad n)).1) ((S_X6_writeStory_89 tx txl r f ad n (L_X6_writeStory_10 tx txl r f ad n)).2)) := hB0.splice 1 hQ.1 hQ.2 rfl (Nat.le_of_ble_eq_true rfl)
      refine lv_iinc (v := (nI (n + 1))) (lv' := [(2, .int (nI (n + 1))), (3, .int ((f_X5_oldest r ad) + (nI n))), (0, .ref (α (k))), (1, .ref (α (k2)))]) S.1 S.2.1 dX6_writeStory_92 hl (k := 1) rfl ((nI_succ n).symm) (by decide) rfl (fun ls hl => ?_)
      refine lv_goto (tgt := 10) S.1 S.2.1 dX6_writeStory_95 (by decide) ?_
      have hL : (L_X6_writeStory_10 tx txl r f ad (n + 1)) = ((S_X6_writeStory_89 tx txl r f ad n (L_X6_writeStory_10 tx txl r f ad n)).1, (S_X6_writeStory_89 tx txl r f ad n (L_X6_writeStory_10 tx txl r f ad n)).2) := (iter_s _ _ _).trans (show (G_X6_writeStory_10 tx txl r f ad n (L_X6_writeStory_10 tx txl r f ad n)) = ((S_X6_writeStory_89 tx txl r f ad n (L_X6_writeStory_10 tx txl r f ad n)).1, (S_X6_writeStory_89 tx txl r f ad n (L_X6_writeStory_10 tx txl r f ad n)).2) from rfl)
      refine ih (n + 1) (lp_n hn) _ _ _ _ hP hD hS hF ?_ ?_
      · rw [hL]; (try dsimp only); exact hB0
      · exact lv_sub hl [0, 2, 3] rfl
  have hL0 : (L_X6_writeStory_10 tx txl r f ad 0) = (tx, (S_X6_writeStory_5 txl)) := iter_z _ _
  exact lp10 ((f_X5_size r ad).toNatClampNeg) 0 (Nat.zero_add ((f_X5_size r ad).toNatClampNeg)) _ _ _ _ hP hD hS hF (by rw [hL0]; (try dsimp only); exact hB0) (lv_sub hl [0, 1, 2] rfl)
