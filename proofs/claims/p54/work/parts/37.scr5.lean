noncomputable def S_X6_writeNumbers_6 (tx : Nat → Int32) (txl : Int32) : (Nat → Int32) × Int32 := (f_X1_addText 2048 tx txl 0)
noncomputable def S_X6_writeNumbers_15 (tx : Nat → Int32) (txl : Int32) (nums : Nat → Int32) : (Nat → Int32) × Int32 := (f_X6_writeNumber ((S_X6_writeNumbers_6 tx txl).1) ((S_X6_writeNumbers_6 tx txl).2) (f_X7_numberOf nums 0))
noncomputable def S_X6_writeNumbers_24 (tx : Nat → Int32) (txl : Int32) (nums : Nat → Int32) : (Nat → Int32) × Int32 := (f_X1_addText 2048 ((S_X6_writeNumbers_15 tx txl nums).1) ((S_X6_writeNumbers_15 tx txl nums).2) 21)
noncomputable def S_X6_writeNumbers_42 (tx : Nat → Int32) (txl : Int32) (nums : Nat → Int32) : (Nat → Int32) × Int32 := (f_X6_writeNumber ((S_X6_writeNumbers_24 tx txl nums).1) ((S_X6_writeNumbers_24 tx txl nums).2) (f_X7_numberOf nums ((1 : Int32) + 0)))
noncomputable def S_X6_writeNumbers_42a (tx : Nat → Int32) (txl : Int32) (nums : Nat → Int32) : (Nat → Int32) × Int32 := (f_X6_writeNumber ((S_X6_writeNumbers_42 tx txl nums).1) ((S_X6_writeNumbers_42 tx txl nums).2) (f_X7_numberOf nums ((1 : Int32) + 1)))
noncomputable def S_X6_writeNumbers_42b (tx : Nat → Int32) (txl : Int32) (nums : Nat → Int32) : (Nat → Int32) × Int32 := (f_X6_writeNumber ((S_X6_writeNumbers_42a tx txl nums).1) ((S_X6_writeNumbers_42a tx txl nums).2) (f_X7_numberOf nums ((1 : Int32) + 2)))
noncomputable def S_X6_writeNumbers_42c (tx : Nat → Int32) (txl : Int32) (nums : Nat → Int32) : (Nat → Int32) × Int32 := (f_X6_writeNumber ((S_X6_writeNumbers_42b tx txl nums).1) ((S_X6_writeNumbers_42b tx txl nums).2) (f_X7_numberOf nums ((1 : Int32) + 3)))
noncomputable def S_X6_writeNumbers_57 (tx : Nat → Int32) (txl : Int32) (nums : Nat → Int32) : (Nat → Int32) × Int32 := (f_X1_addText 2048 ((S_X6_writeNumbers_42c tx txl nums).1) ((S_X6_writeNumbers_42c tx txl nums).2) 22)
noncomputable def S_X6_writeNumbers_66 (tx : Nat → Int32) (txl : Int32) (nums : Nat → Int32) : (Nat → Int32) × Int32 := (f_X6_writeNumber ((S_X6_writeNumbers_57 tx txl nums).1) ((S_X6_writeNumbers_57 tx txl nums).2) (f_X7_numberOf nums 5))
noncomputable def S_X6_writeNumbers_75 (tx : Nat → Int32) (txl : Int32) (nums : Nat → Int32) : (Nat → Int32) × Int32 := (f_X1_addText 2048 ((S_X6_writeNumbers_66 tx txl nums).1) ((S_X6_writeNumbers_66 tx txl nums).2) 23)
noncomputable def S_X6_writeNumbers_85 (tx : Nat → Int32) (txl : Int32) (nums : Nat → Int32) : (Nat → Int32) × Int32 := (f_X6_writeNumber ((S_X6_writeNumbers_75 tx txl nums).1) ((S_X6_writeNumbers_75 tx txl nums).2) (f_X7_numberOf nums 6))
noncomputable def S_X6_writeNumbers_94 (tx : Nat → Int32) (txl : Int32) (nums : Nat → Int32) : (Nat → Int32) × Int32 := (f_X1_addText 2048 ((S_X6_writeNumbers_85 tx txl nums).1) ((S_X6_writeNumbers_85 tx txl nums).2) 24)
noncomputable def S_X6_writeNumbers_104 (tx : Nat → Int32) (txl : Int32) (nums : Nat → Int32) : (Nat → Int32) × Int32 := (f_X6_writeNumber ((S_X6_writeNumbers_94 tx txl nums).1) ((S_X6_writeNumbers_94 tx txl nums).2) (f_X7_numberOf nums 7))
noncomputable def S_X6_writeNumbers_113 (tx : Nat → Int32) (txl : Int32) (nums : Nat → Int32) : (Nat → Int32) × Int32 := (f_X1_addText 2048 ((S_X6_writeNumbers_104 tx txl nums).1) ((S_X6_writeNumbers_104 tx txl nums).2) 25)
noncomputable def S_X6_writeNumbers_123 (tx : Nat → Int32) (txl : Int32) (nums : Nat → Int32) : (Nat → Int32) × Int32 := (f_X6_writeNumber ((S_X6_writeNumbers_113 tx txl nums).1) ((S_X6_writeNumbers_113 tx txl nums).2) (f_X7_numberOf nums 8))
noncomputable def S_X6_writeNumbers_132 (tx : Nat → Int32) (txl : Int32) (nums : Nat → Int32) : (Nat → Int32) × Int32 := (f_X1_addText 2048 ((S_X6_writeNumbers_123 tx txl nums).1) ((S_X6_writeNumbers_123 tx txl nums).2) 26)
noncomputable def S_X6_writeNumbers_142 (tx : Nat → Int32) (txl : Int32) (nums : Nat → Int32) : (Nat → Int32) × Int32 := (f_X6_writeNumber ((S_X6_writeNumbers_132 tx txl nums).1) ((S_X6_writeNumbers_132 tx txl nums).2) (f_X7_numberOf nums 9))
noncomputable def S_X6_writeNumbers_151 (tx : Nat → Int32) (txl : Int32) (nums : Nat → Int32) : (Nat → Int32) × Int32 := (f_X1_add 2048 ((S_X6_writeNumbers_142 tx txl nums).1) ((S_X6_writeNumbers_142 tx txl nums).2) 59)
noncomputable def f_X6_writeNumbers (tx : Nat → Int32) (txl : Int32) (nums : Nat → Int32) : (Nat → Int32) × Int32 := ((S_X6_writeNumbers_151 tx txl nums).1, (S_X6_writeNumbers_151 tx txl nums).2)
set_option maxHeartbeats 4000000 in
set_option maxRecDepth 100000 in
theorem c_X6_writeNumbers (l : Launch) (D : va_G) (A : Nat → Prop) (w : va_W) (α : Nat → Nat) (k : Nat) (tx : Nat → Int32) (txl : Int32) (k2 : Nat) (nums : Nat → Int32) (bNames : Nat → Int32) (pNames : Nat → Int32) (fBoats : Nat → Int32) (nB : Int32) (nP : Int32) (hB0 : Blk w k (cScribe D α k tx txl)) (hB1 : Blk w k2 (cSetup D α k2 nums bNames pNames fBoats nB nP)) (hd1 : k2 + 5 ≤ k ∨ k + 3 ≤ k2) : Met l yX6_writeNumbers (ws_ yX6_writeNumbers cX6_writeNumbers 3 none) ({ frames := 5, cells := 0, slots := 0, locals := 107 }) (gPre D A [.ref (α (k)), .ref (α (k2))] w) (gQ D A none (fun w1 => Blk w1 k (cScribe D α k ((f_X6_writeNumbers tx txl nums).1) ((f_X6_writeNumbers tx txl nums).2)) ∧ Same w w1 k 3)) 0 0 A := by
  refine g_met [(0, .ref (α (k))), (1, .ref (α (k2)))] (plainFor_of_name (by decide)) (Nat.le_of_ble_eq_true rfl) rfl (fun pg en s mi ar below me co ls S hK hP hD hE hS hr hlk hnm hl => ?_)
  have hF : Same w w k 3 := Same.rf
  refine lv_aload_n S.1 S.2.1 dX6_writeNumbers_0 rfl (lv_at hl 0 rfl) ?_
  refine g_get (v := .ref (α (k + 1))) S hK hP (hB0 0 _ rfl) rfl inX6 0 (by decide) qw293 rfl dX6_writeNumbers_1 ?_
  refine va_ldcS (own := RX6) (q := D.2 200 0) S.1 S.2.1 S.2.2.2.1 (ldS_21 hE) dX6_writeNumbers_4 ?_
  have hNm : (f_X1_addText 2048 tx txl 0) = (S_X6_writeNumbers_6 tx txl) := rfl
  have hCon := (c_X1_addText l D A w α (k + 1) 2048 tx txl 0 (hB0.sub 1 rfl) (Nat.le_of_ble_eq_true rfl) (by decide))
  rw [hNm] at hCon
  refine g_aft0 (st1 := []) (g_V (As := [.ref (D.2 200 0)]) (rest := []) S mi_X1_addText qw1437 hCon hK hP hD hE hS (hB0 1 _ rfl) rfl rfl rfl hl.1 (Nat.le_of_ble_eq_true rfl) rfl rfl ⟨(Nat.le_of_ble_eq_true rfl), (Nat.le_of_ble_eq_true rfl)⟩ ⟨(Nat.le_of_ble_eq_true rfl), (Nat.le_of_ble_eq_true rfl)⟩ dX6_writeNumbers_6) hS rfl (fun w1 H locs hQ hP hD hS => ?_)
  have hF := hF.call 1 hQ.2 (by decide)
  have hB0 : Blk w1 k (cScribe D α k ((S_X6_writeNumbers_6 tx txl).1) ((S_X6_writeNumbers_6 tx txl).2)) := hB0.splice 1 hQ.1 hQ.2 rfl (Nat.le_of_ble_eq_true rfl)
  refine lv_aload_n S.1 S.2.1 dX6_writeNumbers_9 rfl (lv_at hl 0 rfl) ?_
  refine lv_aload_n S.1 S.2.1 dX6_writeNumbers_10 rfl (lv_at hl 1 rfl) ?_
  refine lv_iconst (v := 0) S.1 S.2.1 dX6_writeNumbers_11 (by decide) ?_
  refine g_aftR0 (st1 := [.int (f_X7_numberOf nums 0), .ref (α (k))]) (g_V (As := [.int 0]) (rest := [.ref (α (k))]) S mi_X7_numberOf qw1492 (c_X7_numberOf l D A w1 α (k2) nums bNames pNames fBoats nB nP 0 (hB1.other hF hd1)) hK hP hD hE hS ((hB1.other hF hd1) 0 _ rfl) rfl rfl rfl hl.1 (Nat.le_of_ble_eq_true rfl) rfl rfl ⟨(Nat.le_of_ble_eq_true rfl), (Nat.le_of_ble_eq_true rfl)⟩ ⟨(Nat.le_of_ble_eq_true rfl), (Nat.le_of_ble_eq_true rfl)⟩ dX6_writeNumbers_12) hS rfl (fun locs hS => ?_)
  have hNm : (f_X6_writeNumber ((S_X6_writeNumbers_6 tx txl).1) ((S_X6_writeNumbers_6 tx txl).2) (f_X7_numberOf nums 0)) = (S_X6_writeNumbers_15 tx txl nums) := rfl
  have hCon := (c_X6_writeNumber l D A w1 α (k) ((S_X6_writeNumbers_6 tx txl).1) ((S_X6_writeNumbers_6 tx txl).2) (f_X7_numberOf nums 0) hB0)
  rw [hNm] at hCon
  refine g_aft0 (st1 := []) (g_V (As := [.int (f_X7_numberOf nums 0)]) (rest := []) S mi_X6_writeNumber qw1443 hCon hK hP hD hE hS (hB0 0 _ rfl) rfl rfl rfl hl.1 (Nat.le_of_ble_eq_true rfl) rfl rfl ⟨(Nat.le_of_ble_eq_true rfl), (Nat.le_of_ble_eq_true rfl)⟩ ⟨(Nat.le_of_ble_eq_true rfl), (Nat.le_of_ble_eq_true rfl)⟩ dX6_writeNumbers_15) hS rfl (fun w2 H locs hQ hP hD hS => ?_)
  have hF := hF.trans hQ.2
  have hB0 : Blk w2 k (cScribe D α k ((S_X6_writeNumbers_15 tx txl nums).1) ((S_X6_writeNumbers_15 tx txl nums).2)) := hQ.1
  refine lv_aload_n S.1 S.2.1 dX6_writeNumbers_18 rfl (lv_at hl 0 rfl) ?_
  refine g_get (v := .ref (α (k + 1))) S hK hP (hB0 0 _ rfl) rfl inX6 0 (by decide) qw293 rfl dX6_writeNumbers_19 ?_
  refine va_ldcS (own := RX6) (q := D.2 200 21) S.1 S.2.1 S.2.2.2.1 (ldS_22 hE) dX6_writeNumbers_22 ?_
  have hNm : (f_X1_addText 2048 ((S_X6_writeNumbers_15 tx txl nums).1) ((S_X6_writeNumbers_15 tx txl nums).2) 21) = (S_X6_writeNumbers_24 tx txl nums) := rfl
  have hCon := (c_X1_addText l D A w2 α (k + 1) 2048 ((S_X6_writeNumbers_15 tx txl nums).1) ((S_X6_writeNumbers_15 tx txl nums).2) 21 (hB0.sub 1 rfl) (Nat.le_of_ble_eq_true rfl) (by decide))
  rw [hNm] at hCon
  refine g_aft0 (st1 := []) (g_V (As := [.ref (D.2 200 21)]) (rest := []) S mi_X1_addText qw1437 hCon hK hP hD hE hS (hB0 1 _ rfl) rfl rfl rfl hl.1 (Nat.le_of_ble_eq_true rfl) rfl rfl ⟨(Nat.le_of_ble_eq_true rfl), (Nat.le_of_ble_eq_true rfl)⟩ ⟨(Nat.le_of_ble_eq_true rfl), (Nat.le_of_ble_eq_true rfl)⟩ dX6_writeNumbers_24) hS rfl (fun w3 H locs hQ hP hD hS => ?_)
  have hF := hF.call 1 hQ.2 (by decide)
  have hB0 : Blk w3 k (cScribe D α k ((S_X6_writeNumbers_24 tx txl nums).1) ((S_X6_writeNumbers_24 tx txl nums).2)) := hB0.splice 1 hQ.1 hQ.2 rfl (Nat.le_of_ble_eq_true rfl)
  refine lv_iconst (v := 0) S.1 S.2.1 dX6_writeNumbers_27 (by decide) ?_
  refine lv_istore_n (lv' := [(2, .int 0), (0, .ref (α (k))), (1, .ref (α (k2)))]) S.1 S.2.1 dX6_writeNumbers_28 rfl hl (by decide) rfl (fun ls hl => ?_)
  refine lv_iload_n S.1 S.2.1 dX6_writeNumbers_29 rfl (lv_at hl 0 rfl) ?_
  refine lv_iconst (v := 4) S.1 S.2.1 dX6_writeNumbers_30 (by decide) ?_
  refine lv_icmp_ge (tgt := 51) S.1 S.2.1 dX6_writeNumbers_31 (by decide) (fun c1 => absurd c1 (by decide)) (fun _ => ?_)
  refine lv_aload_n S.1 S.2.1 dX6_writeNumbers_34 rfl (lv_at hl 1 rfl) ?_
  refine lv_aload_n S.1 S.2.1 dX6_writeNumbers_35 rfl (lv_at hl 2 rfl) ?_
  refine lv_iconst (v := 1) S.1 S.2.1 dX6_writeNumbers_36 (by decide) ?_
  refine lv_iload_n S.1 S.2.1 dX6_writeNumbers_37 rfl (lv_at hl 0 rfl) ?_
  refine lv_iadd S.1 S.2.1 dX6_writeNumbers_38 ?_
  refine g_aftR0 (st1 := [.int (f_X7_numberOf nums ((1 : Int32) + 0)), .ref (α (k))]) (g_V (As := [.int ((1 : Int32) + 0)]) (rest := [.ref (α (k))]) S mi_X7_numberOf qw1492 (c_X7_numberOf l D A w3 α (k2) nums bNames pNames fBoats nB nP ((1 : Int32) + 0) (hB1.other hF hd1)) hK hP hD hE hS ((hB1.other hF hd1) 0 _ rfl) rfl rfl rfl hl.1 (Nat.le_of_ble_eq_true rfl) rfl rfl ⟨(Nat.le_of_ble_eq_true rfl), (Nat.le_of_ble_eq_true rfl)⟩ ⟨(Nat.le_of_ble_eq_true rfl), (Nat.le_of_ble_eq_true rfl)⟩ dX6_writeNumbers_39) hS rfl (fun locs hS => ?_)
  have hNm : (f_X6_writeNumber ((S_X6_writeNumbers_24 tx txl nums).1) ((S_X6_writeNumbers_24 tx txl nums).2) (f_X7_numberOf nums ((1 : Int32) + 0))) = (S_X6_writeNumbers_42 tx txl nums) := rfl
  have hCon := (c_X6_writeNumber l D A w3 α (k) ((S_X6_writeNumbers_24 tx txl nums).1) ((S_X6_writeNumbers_24 tx txl nums).2) (f_X7_numberOf nums ((1 : Int32) + 0)) hB0)
  rw [hNm] at hCon
  refine g_aft0 (st1 := []) (g_V (As := [.int (f_X7_numberOf nums ((1 : Int32) + 0))]) (rest := []) S mi_X6_writeNumber qw1443 hCon hK hP hD hE hS (hB0 0 _ rfl) rfl rfl rfl hl.1 (Nat.le_of_ble_eq_true rfl) rfl rfl ⟨(Nat.le_of_ble_eq_true rfl), (Nat.le_of_ble_eq_true rfl)⟩ ⟨(Nat.le_of_ble_eq_true rfl), (Nat.le_of_ble_eq_true rfl)⟩ dX6_writeNumbers_42) hS rfl (fun w4 H locs hQ hP hD hS => ?_)
  have hF := hF.trans hQ.2
  have hB0 : Blk w4 k (cScribe D α k ((S_X6_writeNumbers_42 tx txl nums).1) ((S_X6_writeNumbers_42 tx txl nums).2)) := hQ.1
  refine lv_iinc (v := 1) (lv' := [(2, .int 1), (0, .ref (α (k))), (1, .ref (α (k2)))]) S.1 S.2.1 dX6_writeNumbers_45 hl (k := 0) rfl (by decide) (by decide) rfl (fun ls hl => ?_)
  refine lv_goto (tgt := 29) S.1 S.2.1 dX6_writeNumbers_48 (by decide) ?_
  refine lv_iload_n S.1 S.2.1 dX6_writeNumbers_29 rfl (lv_at hl 0 rfl) ?_
  refine lv_iconst (v := 4) S.1 S.2.1 dX6_writeNumbers_30 (by decide) ?_
  refine lv_icmp_ge (tgt := 51) S.1 S.2.1 dX6_writeNumbers_31 (by decide) (fun c2 => absurd c2 (by decide)) (fun _ => ?_)
  refine lv_aload_n S.1 S.2.1 dX6_writeNumbers_34 rfl (lv_at hl 1 rfl) ?_
  refine lv_aload_n S.1 S.2.1 dX6_writeNumbers_35 rfl (lv_at hl 2 rfl) ?_
  refine lv_iconst (v := 1) S.1 S.2.1 dX6_writeNumbers_36 (by decide) ?_
  refine lv_iload_n S.1 S.2.1 dX6_writeNumbers_37 rfl (lv_at hl 0 rfl) ?_
  refine lv_iadd S.1 S.2.1 dX6_writeNumbers_38 ?_
  refine g_aftR0 (st1 := [.int (f_X7_numberOf nums ((1 : Int32) + 1)), .ref (α (k))]) (g_V (As := [.int ((1 : Int32) + 1)]) (rest := [.ref (α (k))]) S mi_X7_numberOf qw1492 (c_X7_numberOf l D A w4 α (k2) nums bNames pNames fBoats nB nP ((1 : Int32) + 1) (hB1.other hF hd1)) hK hP hD hE hS ((hB1.other hF hd1) 0 _ rfl) rfl rfl rfl hl.1 (Nat.le_of_ble_eq_true rfl) rfl rfl ⟨(Nat.le_of_ble_eq_true rfl), (Nat.le_of_ble_eq_true rfl)⟩ ⟨(Nat.le_of_ble_eq_true rfl), (Nat.le_of_ble_eq_true rfl)⟩ dX6_writeNumbers_39) hS rfl (fun locs hS => ?_)
  have hNm : (f_X6_writeNumber ((S_X6_writeNumbers_42 tx txl nums).1) ((S_X6_writeNumbers_42 tx txl nums).2) (f_X7_numberOf nums ((1 : Int32) + 1))) = (S_X6_writeNumbers_42a tx txl nums) := rfl
  have hCon := (c_X6_writeNumber l D A w4 α (k) ((S_X6_writeNumbers_42 tx txl nums).1) ((S_X6_writeNumbers_42 tx txl nums).2) (f_X7_numberOf nums ((1 : Int32) + 1)) hB0)
  rw [hNm] at hCon
  refine g_aft0 (st1 := []) (g_V (As := [.int (f_X7_numberOf nums ((1 : Int32) + 1))]) (rest := []) S mi_X6_writeNumber qw1443 hCon hK hP hD hE hS (hB0 0 _ rfl) rfl rfl rfl hl.1 (Nat.le_of_ble_eq_true rfl) rfl rfl ⟨(Nat.le_of_ble_eq_true rfl), (Nat.le_of_ble_eq_true rfl)⟩ ⟨(Nat.le_of_ble_eq_true rfl), (Nat.le_of_ble_eq_true rfl)⟩ dX6_writeNumbers_42) hS rfl (fun w5 H locs hQ hP hD hS => ?_)
  have hF := hF.trans hQ.2
  have hB0 : Blk w5 k (cScribe D α k ((S_X6_writeNumbers_42a tx txl nums).1) ((S_X6_writeNumbers_42a tx txl nums).2)) := hQ.1
  refine lv_iinc (v := 2) (lv' := [(2, .int 2), (0, .ref (α (k))), (1, .ref (α (k2)))]) S.1 S.2.1 dX6_writeNumbers_45 hl (k := 0) rfl (by decide) (by decide) rfl (fun ls hl => ?_)
  refine lv_goto (tgt := 29) S.1 S.2.1 dX6_writeNumbers_48 (by decide) ?_
  refine lv_iload_n S.1 S.2.1 dX6_writeNumbers_29 rfl (lv_at hl 0 rfl) ?_
  refine lv_iconst (v := 4) S.1 S.2.1 dX6_writeNumbers_30 (by decide) ?_
  refine lv_icmp_ge (tgt := 51) S.1 S.2.1 dX6_writeNumbers_31 (by decide) (fun c3 => absurd c3 (by decide)) (fun _ => ?_)
  refine lv_aload_n S.1 S.2.1 dX6_writeNumbers_34 rfl (lv_at hl 1 rfl) ?_
  refine lv_aload_n S.1 S.2.1 dX6_writeNumbers_35 rfl (lv_at hl 2 rfl) ?_
  refine lv_iconst (v := 1) S.1 S.2.1 dX6_writeNumbers_36 (by decide) ?_
  refine lv_iload_n S.1 S.2.1 dX6_writeNumbers_37 rfl (lv_at hl 0 rfl) ?_
  refine lv_iadd S.1 S.2.1 dX6_writeNumbers_38 ?_
  refine g_aftR0 (st1 := [.int (f_X7_numberOf nums ((1 : Int32) + 2)), .ref (α (k))]) (g_V (As := [.int ((1 : Int32) + 2)]) (rest := [.ref (α (k))]) S mi_X7_numberOf qw1492 (c_X7_numberOf l D A w5 α (k2) nums bNames pNames fBoats nB nP ((1 : Int32) + 2) (hB1.other hF hd1)) hK hP hD hE hS ((hB1.other hF hd1) 0 _ rfl) rfl rfl rfl hl.1 (Nat.le_of_ble_eq_true rfl) rfl rfl ⟨(Nat.le_of_ble_eq_true rfl), (Nat.le_of_ble_eq_true rfl)⟩ ⟨(Nat.le_of_ble_eq_true rfl), (Nat.le_of_ble_eq_true rfl)⟩ dX6_writeNumbers_39) hS rfl (fun locs hS => ?_)
  have hNm : (f_X6_writeNumber ((S_X6_writeNumbers_42a tx txl nums).1) ((S_X6_writeNumbers_42a tx txl nums).2) (f_X7_numberOf nums ((1 : Int32) + 2))) = (S_X6_writeNumbers_42b tx txl nums) := rfl
  have hCon := (c_X6_writeNumber l D A w5 α (k) ((S_X6_writeNumbers_42a tx txl nums).1) ((S_X6_writeNumbers_42a tx txl nums).2) (f_X7_numberOf nums ((1 : Int32) + 2)) hB0)
  rw [hNm] at hCon
  refine g_aft0 (st1 := []) (g_V (As := [.int (f_X7_numberOf nums ((1 : Int32) + 2))]) (rest := []) S mi_X6_writeNumber qw1443 hCon hK hP hD hE hS (hB0 0 _ rfl) rfl rfl rfl hl.1 (Nat.le_of_ble_eq_true rfl) rfl rfl ⟨(Nat.le_of_ble_eq_true rfl), (Nat.le_of_ble_eq_true rfl)⟩ ⟨(Nat.le_of_ble_eq_true rfl), (Nat.le_of_ble_eq_true rfl)⟩ dX6_writeNumbers_42) hS rfl (fun w6 H locs hQ hP hD hS => ?_)
  have hF := hF.trans hQ.2
  have hB0 : Blk w6 k (cScribe D α k ((S_X6_writeNumbers_42b tx txl nums).1) ((S_X6_writeNumbers_42b tx txl nums).2)) := hQ.1
  refine lv_iinc (v := 3) (lv' := [(2, .int 3), (0, .ref (α (k))), (1, .ref (α (k2)))]) S.1 S.2.1 dX6_writeNumbers_45 hl (k := 0) rfl (by decide) (by decide) rfl (fun ls hl => ?_)
  refine lv_goto (tgt := 29) S.1 S.2.1 dX6_writeNumbers_48 (by decide) ?_
  refine lv_iload_n S.1 S.2.1 dX6_writeNumbers_29 rfl (lv_at hl 0 rfl) ?_
  refine lv_iconst (v := 4) S.1 S.2.1 dX6_writeNumbers_30 (by decide) ?_
  refine lv_icmp_ge (tgt := 51) S.1 S.2.1 dX6_writeNumbers_31 (by decide) (fun c4 => absurd c4 (by decide)) (fun _ => ?_)
  refine lv_aload_n S.1 S.2.1 dX6_writeNumbers_34 rfl (lv_at hl 1 rfl) ?_
  refine lv_aload_n S.1 S.2.1 dX6_writeNumbers_35 rfl (lv_at hl 2 rfl) ?_
  refine lv_iconst (v := 1) S.1 S.2.1 dX6_writeNumbers_36 (by decide) ?_
  refine lv_iload_n S.1 S.2.1 dX6_writeNumbers_37 rfl (lv_at hl 0 rfl) ?_
  refine lv_iadd S.1 S.2.1 dX6_writeNumbers_38 ?_
  refine g_aftR0 (st1 := [.int (f_X7_numberOf nums ((1 : Int32) + 3)), .ref (α (k))]) (g_V (As := [.int ((1 : Int32) + 3)]) (rest := [.ref (α (k))]) S mi_X7_numberOf qw1492 (c_X7_numberOf l D A w6 α (k2) nums bNames pNames fBoats nB nP ((1 : Int32) + 3) (hB1.other hF hd1)) hK hP hD hE hS ((hB1.other hF hd1) 0 _ rfl) rfl rfl rfl hl.1 (Nat.le_of_ble_eq_true rfl) rfl rfl ⟨(Nat.le_of_ble_eq_true rfl), (Nat.le_of_ble_eq_true rfl)⟩ ⟨(Nat.le_of_ble_eq_true rfl), (Nat.le_of_ble_eq_true rfl)⟩ dX6_writeNumbers_39) hS rfl (fun locs hS => ?_)
  have hNm : (f_X6_writeNumber ((S_X6_writeNumbers_42b tx txl nums).1) ((S_X6_writeNumbers_42b tx txl nums).2) (f_X7_numberOf nums ((1 : Int32) + 3))) = (S_X6_writeNumbers_42c tx txl nums) := rfl
  have hCon := (c_X6_writeNumber l D A w6 α (k) ((S_X6_writeNumbers_42b tx txl nums).1) ((S_X6_writeNumbers_42b tx txl nums).2) (f_X7_numberOf nums ((1 : Int32) + 3)) hB0)
  rw [hNm] at hCon
  refine g_aft0 (st1 := []) (g_V (As := [.int (f_X7_numberOf nums ((1 : Int32) + 3))]) (rest := []) S mi_X6_writeNumber qw1443 hCon hK hP hD hE hS (hB0 0 _ rfl) rfl rfl rfl hl.1 (Nat.le_of_ble_eq_true rfl) rfl rfl ⟨(Nat.le_of_ble_eq_true rfl), (Nat.le_of_ble_eq_true rfl)⟩ ⟨(Nat.le_of_ble_eq_true rfl), (Nat.le_of_ble_eq_true rfl)⟩ dX6_writeNumbers_42) hS rfl (fun w7 H locs hQ hP hD hS => ?_)
  have hF := hF.trans hQ.2
  have hB0 : Blk w7 k (cScribe D α k ((S_X6_writeNumbers_42c tx txl nums).1) ((S_X6_writeNumbers_42c tx txl nums).2)) := hQ.1
  refine lv_iinc (v := 4) (lv' := [(2, .int 4), (0, .ref (α (k))), (1, .ref (α (k2)))]) S.1 S.2.1 dX6_writeNumbers_45 hl (k := 0) rfl (by decide) (by decide) rfl (fun ls hl => ?_)
  refine lv_goto (tgt := 29) S.1 S.2.1 dX6_writeNumbers_48 (by decide) ?_
  refine lv_iload_n S.1 S.2.1 dX6_writeNumbers_29 rfl (lv_at hl 0 rfl) ?_
  refine lv_iconst (v := 4) S.1 S.2.1 dX6_writeNumbers_30 (by decide) ?_
  refine lv_icmp_ge (tgt := 51) S.1 S.2.1 dX6_writeNumbers_31 (by decide) (fun _ => ?_) (fun c5 => absurd c5 (by decide))
  refine lv_aload_n S.1 S.2.1 dX6_writeNumbers_51 rfl (lv_at hl 1 rfl) ?_
  refine g_get (v := .ref (α (k + 1))) S hK hP (hB0 0 _ rfl) rfl inX6 0 (by decide) qw293 rfl dX6_writeNumbers_52 ?_
  refine va_ldcS (own := RX6) (q := D.2 200 22) S.1 S.2.1 S.2.2.2.1 (ldS_23 hE) dX6_writeNumbers_55 ?_
  have hNm : (f_X1_addText 2048 ((S_X6_writeNumbers_42c tx txl nums).1) ((S_X6_writeNumbers_42c tx txl nums).2) 22) = (S_X6_writeNumbers_57 tx txl nums) := rfl
  have hCon := (c_X1_addText l D A w7 α (k + 1) 2048 ((S_X6_writeNumbers_42c tx txl nums).1) ((S_X6_writeNumbers_42c tx txl nums).2) 22 (hB0.sub 1 rfl) (Nat.le_of_ble_eq_true rfl) (by decide))
  rw [hNm] at hCon
  refine g_aft0 (st1 := []) (g_V (As := [.ref (D.2 200 22)]) (rest := []) S mi_X1_addText qw1437 hCon hK hP hD hE hS (hB0 1 _ rfl) rfl rfl rfl hl.1 (Nat.le_of_ble_eq_true rfl) rfl rfl ⟨(Nat.le_of_ble_eq_true rfl), (Nat.le_of_ble_eq_true rfl)⟩ ⟨(Nat.le_of_ble_eq_true rfl), (Nat.le_of_ble_eq_true rfl)⟩ dX6_writeNumbers_57) hS rfl (fun w8 H locs hQ hP hD hS => ?_)
  have hF := hF.call 1 hQ.2 (by decide)
  have hB0 : Blk w8 k (cScribe D α k ((S_X6_writeNumbers_57 tx txl nums).1) ((S_X6_writeNumbers_57 tx txl nums).2)) := hB0.splice 1 hQ.1 hQ.2 rfl (Nat.le_of_ble_eq_true rfl)
  refine lv_aload_n S.1 S.2.1 dX6_writeNumbers_60 rfl (lv_at hl 1 rfl) ?_
  refine lv_aload_n S.1 S.2.1 dX6_writeNumbers_61 rfl (lv_at hl 2 rfl) ?_
  refine lv_iconst (v := 5) S.1 S.2.1 dX6_writeNumbers_62 (by decide) ?_
  refine g_aftR0 (st1 := [.int (f_X7_numberOf nums 5), .ref (α (k))]) (g_V (As := [.int 5]) (rest := [.ref (α (k))]) S mi_X7_numberOf qw1492 (c_X7_numberOf l D A w8 α (k2) nums bNames pNames fBoats nB nP 5 (hB1.other hF hd1)) hK hP hD hE hS ((hB1.other hF hd1) 0 _ rfl) rfl rfl rfl hl.1 (Nat.le_of_ble_eq_true rfl) rfl rfl ⟨(Nat.le_of_ble_eq_true rfl), (Nat.le_of_ble_eq_true rfl)⟩ ⟨(Nat.le_of_ble_eq_true rfl), (Nat.le_of_ble_eq_true rfl)⟩ dX6_writeNumbers_63) hS rfl (fun locs hS => ?_)
  have hNm : (f_X6_writeNumber ((S_X6_writeNumbers_57 tx txl nums).1) ((S_X6_writeNumbers_57 tx txl nums).2) (f_X7_numberOf nums 5)) = (S_X6_writeNumbers_66 tx txl nums) := rfl
  have hCon := (c_X6_writeNumber l D A w8 α (k) ((S_X6_writeNumbers_57 tx txl nums).1) ((S_X6_writeNumbers_57 tx txl nums).2) (f_X7_numberOf nums 5) hB0)
  rw [hNm] at hCon
  refine g_aft0 (st1 := []) (g_V (As := [.int (f_X7_numberOf nums 5)]) (rest := []) S mi_X6_writeNumber qw1443 hCon hK hP hD hE hS (hB0 0 _ rfl) rfl rfl rfl hl.1 (Nat.le_of_ble_eq_true rfl) rfl rfl ⟨(Nat.le_of_ble_eq_true rfl), (Nat.le_of_ble_eq_true rfl)⟩ ⟨(Nat.le_of_ble_eq_true rfl), (Nat.le_of_ble_eq_true rfl)⟩ dX6_writeNumbers_66) hS rfl (fun w9 H locs hQ hP hD hS => ?_)
  have hF := hF.trans hQ.2
  have hB0 : Blk w9 k (cScribe D α k ((S_X6_writeNumbers_66 tx txl nums).1) ((S_X6_writeNumbers_66 tx txl nums).2)) := hQ.1
  refine lv_aload_n S.1 S.2.1 dX6_writeNumbers_69 rfl (lv_at hl 1 rfl) ?_
  refine g_get (v := .ref (α (k + 1))) S hK hP (hB0 0 _ rfl) rfl inX6 0 (by decide) qw293 rfl dX6_writeNumbers_70 ?_
  refine va_ldcS (own := RX6) (q := D.2 200 23) S.1 S.2.1 S.2.2.2.1 (ldS_24 hE) dX6_writeNumbers_73 ?_
  have hNm : (f_X1_addText 2048 ((S_X6_writeNumbers_66 tx txl nums).1) ((S_X6_writeNumbers_66 tx txl nums).2) 23) = (S_X6_writeNumbers_75 tx txl nums) := rfl
  have hCon := (c_X1_addText l D A w9 α (k + 1) 2048 ((S_X6_writeNumbers_66 tx txl nums).1) ((S_X6_writeNumbers_66 tx txl nums).2) 23 (hB0.sub 1 rfl) (Nat.le_of_ble_eq_true rfl) (by decide))
  rw [hNm] at hCon
  refine g_aft0 (st1 := []) (g_V (As := [.ref (D.2 200 23)]) (rest := []) S mi_X1_addText qw1437 hCon hK hP hD hE hS (hB0 1 _ rfl) rfl rfl rfl hl.1 (Nat.le_of_ble_eq_true rfl) rfl rfl ⟨(Nat.le_of_ble_eq_true rfl), (Nat.le_of_ble_eq_true rfl)⟩ ⟨(Nat.le_of_ble_eq_true rfl), (Nat.le_of_ble_eq_true rfl)⟩ dX6_writeNumbers_75) hS rfl (fun w10 H locs hQ hP hD hS => ?_)
  have hF := hF.call 1 hQ.2 (by decide)
  have hB0 : Blk w10 k (cScribe D α k ((S_X6_writeNumbers_75 tx txl nums).1) ((S_X6_writeNumbers_75 tx txl nums).2)) := hB0.splice 1 hQ.1 hQ.2 rfl (Nat.le_of_ble_eq_true rfl)
  refine lv_aload_n S.1 S.2.1 dX6_writeNumbers_78 rfl (lv_at hl 1 rfl) ?_
  refine lv_aload_n S.1 S.2.1 dX6_writeNumbers_79 rfl (lv_at hl 2 rfl) ?_
  refine lv_bipush (v := 6) S.1 S.2.1 dX6_writeNumbers_80 (by decide) ?_
  refine g_aftR0 (st1 := [.int (f_X7_numberOf nums 6), .ref (α (k))]) (g_V (As := [.int 6]) (rest := [.ref (α (k))]) S mi_X7_numberOf qw1492 (c_X7_numberOf l D A w10 α (k2) nums bNames pNames fBoats nB nP 6 (hB1.other hF hd1)) hK hP hD hE hS ((hB1.other hF hd1) 0 _ rfl) rfl rfl rfl hl.1 (Nat.le_of_ble_eq_true rfl) rfl rfl ⟨(Nat.le_of_ble_eq_true rfl), (Nat.le_of_ble_eq_true rfl)⟩ ⟨(Nat.le_of_ble_eq_true rfl), (Nat.le_of_ble_eq_true rfl)⟩ dX6_writeNumbers_82) hS rfl (fun locs hS => ?_)
  have hNm : (f_X6_writeNumber ((S_X6_writeNumbers_75 tx txl nums).1) ((S_X6_writeNumbers_75 tx txl nums).2) (f_X7_numberOf nums 6)) = (S_X6_writeNumbers_85 tx txl nums) := rfl
  have hCon := (c_X6_writeNumber l D A w10 α (k) ((S_X6_writeNumbers_75 tx txl nums).1) ((S_X6_writeNumbers_75 tx txl nums).2) (f_X7_numberOf nums 6) hB0)
  rw [hNm] at hCon
  refine g_aft0 (st1 := []) (g_V (As := [.int (f_X7_numberOf nums 6)]) (rest := []) S mi_X6_writeNumber qw1443 hCon hK hP hD hE hS (hB0 0 _ rfl) rfl rfl rfl hl.1 (Nat.le_of_ble_eq_true rfl) rfl rfl ⟨(Nat.le_of_ble_eq_true rfl), (Nat.le_of_ble_eq_true rfl)⟩ ⟨(Nat.le_of_ble_eq_true rfl), (Nat.le_of_ble_eq_true rfl)⟩ dX6_writeNumbers_85) hS rfl (fun w11 H locs hQ hP hD hS => ?_)
  have hF := hF.trans hQ.2
  have hB0 : Blk w11 k (cScribe D α k ((S_X6_writeNumbers_85 tx txl nums).1) ((S_X6_writeNumbers_85 tx txl nums).2)) := hQ.1
  refine lv_aload_n S.1 S.2.1 dX6_writeNumbers_88 rfl (lv_at hl 1 rfl) ?_
  refine g_get (v := .ref (α (k + 1))) S hK hP (hB0 0 _ rfl) rfl inX6 0 (by decide) qw293 rfl dX6_writeNumbers_89 ?_
  refine va_ldcS (own := RX6) (q := D.2 200 24) S.1 S.2.1 S.2.2.2.1 (ldS_25 hE) dX6_writeNumbers_92 ?_
  have hNm : (f_X1_addText 2048 ((S_X6_writeNumbers_85 tx txl nums).1) ((S_X6_writeNumbers_85 tx txl nums).2) 24) = (S_X6_writeNumbers_94 tx txl nums) := rfl
  have hCon := (c_X1_addText l D A w11 α (k + 1) 2048 ((S_X6_writeNumbers_85 tx txl nums).1) ((S_X6_writeNumbers_85 tx txl nums).2) 24 (hB0.sub 1 rfl) (Nat.le_of_ble_eq_true rfl) (by decide))
  rw [hNm] at hCon
  refine g_aft0 (st1 := []) (g_V (As := [.ref (D.2 200 24)]) (rest := []) S mi_X1_addText qw1437 hCon hK hP hD hE hS (hB0 1 _ rfl) rfl rfl rfl hl.1 (Nat.le_of_ble_eq_true rfl) rfl rfl ⟨(Nat.le_of_ble_eq_true rfl), (Nat.le_of_ble_eq_true rfl)⟩ ⟨(Nat.le_of_ble_eq_true rfl), (Nat.le_of_ble_eq_true rfl)⟩ dX6_writeNumbers_94) hS rfl (fun w12 H locs hQ hP hD hS => ?_)
  have hF := hF.call 1 hQ.2 (by decide)
  have hB0 : Blk w12 k (cScribe D α k ((S_X6_writeNumbers_94 tx txl nums).1) ((S_X6_writeNumbers_94 tx txl nums).2)) := hB0.splice 1 hQ.1 hQ.2 rfl (Nat.le_of_ble_eq_true rfl)
  refine lv_aload_n S.1 S.2.1 dX6_writeNumbers_97 rfl (lv_at hl 1 rfl) ?_
  refine lv_aload_n S.1 S.2.1 dX6_writeNumbers_98 rfl (lv_at hl 2 rfl) ?_
  refine lv_bipush (v := 7) S.1 S.2.1 dX6_writeNumbers_99 (by decide) ?_
  refine g_aftR0 (st1 := [.int (f_X7_numberOf nums 7), .ref (α (k))]) (g_V (As := [.int 7]) (rest := [.ref (α (k))]) S mi_X7_numberOf qw1492 (c_X7_numberOf l D A w12 α (k2) nums bNames pNames fBoats nB nP 7 (hB1.other hF hd1)) hK hP hD hE hS ((hB1.other hF hd1) 0 _ rfl) rfl rfl rfl hl.1 (Nat.le_of_ble_eq_true rfl) rfl rfl ⟨(Nat.le_of_ble_eq_true rfl), (Nat.le_of_ble_eq_true rfl)⟩ ⟨(Nat.le_of_ble_eq_true rfl), (Nat.le_of_ble_eq_true rfl)⟩ dX6_writeNumbers_101) hS rfl (fun locs hS => ?_)
  have hNm : (f_X6_writeNumber ((S_X6_writeNumbers_94 tx txl nums).1) ((S_X6_writeNumbers_94 tx txl nums).2) (f_X7_numberOf nums 7)) = (S_X6_writeNumbers_104 tx txl nums) := rfl
  have hCon := (c_X6_writeNumber l D A w12 α (k) ((S_X6_writeNumbers_94 tx txl nums).1) ((S_X6_writeNumbers_94 tx txl nums).2) (f_X7_numberOf nums 7) hB0)
  rw [hNm] at hCon
  refine g_aft0 (st1 := []) (g_V (As := [.int (f_X7_numberOf nums 7)]) (rest := []) S mi_X6_writeNumber qw1443 hCon hK hP hD hE hS (hB0 0 _ rfl) rfl rfl rfl hl.1 (Nat.le_of_ble_eq_true rfl) rfl rfl ⟨(Nat.le_of_ble_eq_true rfl), (Nat.le_of_ble_eq_true rfl)⟩ ⟨(Nat.le_of_ble_eq_true rfl), (Nat.le_of_ble_eq_true rfl)⟩ dX6_writeNumbers_104) hS rfl (fun w13 H locs hQ hP hD hS => ?_)
  have hF := hF.trans hQ.2
  have hB0 : Blk w13 k (cScribe D α k ((S_X6_writeNumbers_104 tx txl nums).1) ((S_X6_writeNumbers_104 tx txl nums).2)) := hQ.1
  refine lv_aload_n S.1 S.2.1 dX6_writeNumbers_107 rfl (lv_at hl 1 rfl) ?_
  refine g_get (v := .ref (α (k + 1))) S hK hP (hB0 0 _ rfl) rfl inX6 0 (by decide) qw293 rfl dX6_writeNumbers_108 ?_
  refine va_ldcS (own := RX6) (q := D.2 200 25) S.1 S.2.1 S.2.2.2.1 (ldS_26 hE) dX6_writeNumbers_111 ?_
  have hNm : (f_X1_addText 2048 ((S_X6_writeNumbers_104 tx txl nums).1) ((S_X6_writeNumbers_104 tx txl nums).2) 25) = (S_X6_writeNumbers_113 tx txl nums) := rfl
  have hCon := (c_X1_addText l D A w13 α (k + 1) 2048 ((S_X6_writeNumbers_104 tx txl nums).1) ((S_X6_writeNumbers_104 tx txl nums).2) 25 (hB0.sub 1 rfl) (Nat.le_of_ble_eq_true rfl) (by decide))
  rw [hNm] at hCon
  refine g_aft0 (st1 := []) (g_V (As := [.ref (D.2 200 25)]) (rest := []) S mi_X1_addText qw1437 hCon hK hP hD hE hS (hB0 1 _ rfl) rfl rfl rfl hl.1 (Nat.le_of_ble_eq_true rfl) rfl rfl ⟨(Nat.le_of_ble_eq_true rfl), (Nat.le_of_ble_eq_true rfl)⟩ ⟨(Nat.le_of_ble_eq_true rfl), (Nat.le_of_ble_eq_true rfl)⟩ dX6_writeNumbers_113) hS rfl (fun w14 H locs hQ hP hD hS => ?_)
  have hF := hF.call 1 hQ.2 (by decide)
  have hB0 : Blk w14 k (cScribe D α k ((S_X6_writeNumbers_113 tx txl nums).1) ((S_X6_writeNumbers_113 tx txl nums).2)) := hB0.splice 1 hQ.1 hQ.2 rfl (Nat.le_of_ble_eq_true rfl)
  refine lv_aload_n S.1 S.2.1 dX6_writeNumbers_116 rfl (lv_at hl 1 rfl) ?_
  refine lv_aload_n S.1 S.2.1 dX6_writeNumbers_117 rfl (lv_at hl 2 rfl) ?_
  refine lv_bipush (v := 8) S.1 S.2.1 dX6_writeNumbers_118 (by decide) ?_
  refine g_aftR0 (st1 := [.int (f_X7_numberOf nums 8), .ref (α (k))]) (g_V (As := [.int 8]) (rest := [.ref (α (k))]) S mi_X7_numberOf qw1492 (c_X7_numberOf l D A w14 α (k2) nums bNames pNames fBoats nB nP 8 (hB1.other hF hd1)) hK hP hD hE hS ((hB1.other hF hd1) 0 _ rfl) rfl rfl rfl hl.1 (Nat.le_of_ble_eq_true rfl) rfl rfl ⟨(Nat.le_of_ble_eq_true rfl), (Nat.le_of_ble_eq_true rfl)⟩ ⟨(Nat.le_of_ble_eq_true rfl), (Nat.le_of_ble_eq_true rfl)⟩ dX6_writeNumbers_120) hS rfl (fun locs hS => ?_)
  have hNm : (f_X6_writeNumber ((S_X6_writeNumbers_113 tx txl nums).1) ((S_X6_writeNumbers_113 tx txl nums).2) (f_X7_numberOf nums 8)) = (S_X6_writeNumbers_123 tx txl nums) := rfl
  have hCon := (c_X6_writeNumber l D A w14 α (k) ((S_X6_writeNumbers_113 tx txl nums).1) ((S_X6_writeNumbers_113 tx txl nums).2) (f_X7_numberOf nums 8) hB0)
  rw [hNm] at hCon
  refine g_aft0 (st1 := []) (g_V (As := [.int (f_X7_numberOf nums 8)]) (rest := []) S mi_X6_writeNumber qw1443 hCon hK hP hD hE hS (hB0 0 _ rfl) rfl rfl rfl hl.1 (Nat.le_of_ble_eq_true rfl) rfl rfl ⟨(Nat.le_of_ble_eq_true rfl), (Nat.le_of_ble_eq_true rfl)⟩ ⟨(Nat.le_of_ble_eq_true rfl), (Nat.le_of_ble_eq_true rfl)⟩ dX6_writeNumbers_123) hS rfl (fun w15 H locs hQ hP hD hS => ?_)
  have hF := hF.trans hQ.2
  have hB0 : Blk w15 k (cScribe D α k ((S_X6_writeNumbers_123 tx txl nums).1) ((S_X6_writeNumbers_123 tx txl nums).2)) := hQ.1
  refine lv_aload_n S.1 S.2.1 dX6_writeNumbers_126 rfl (lv_at hl 1 rfl) ?_
  refine g_get (v := .ref (α (k + 1))) S hK hP (hB0 0 _ rfl) rfl inX6 0 (by decide) qw293 rfl dX6_writeNumbers_127 ?_
  refine va_ldcS (own := RX6) (q := D.2 200 26) S.1 S.2.1 S.2.2.2.1 (ldS_27 hE) dX6_writeNumbers_130 ?_
  have hNm : (f_X1_addText 2048 ((S_X6_writeNumbers_123 tx txl nums).1) ((S_X6_writeNumbers_123 tx txl nums).2) 26) = (S_X6_writeNumbers_132 tx txl nums) := rfl
  have hCon := (c_X1_addText l D A w15 α (k + 1) 2048 ((S_X6_writeNumbers_123 tx txl nums).1) ((S_X6_writeNumbers_123 tx txl nums).2) 26 (hB0.sub 1 rfl) (Nat.le_of_ble_eq_true rfl) (by decide))
  rw [hNm] at hCon
  refine g_aft0 (st1 := []) (g_V (As := [.ref (D.2 200 26)]) (rest := []) S mi_X1_addText qw1437 hCon hK hP hD hE hS (hB0 1 _ rfl) rfl rfl rfl hl.1 (Nat.le_of_ble_eq_true rfl) rfl rfl ⟨(Nat.le_of_ble_eq_true rfl), (Nat.le_of_ble_eq_true rfl)⟩ ⟨(Nat.le_of_ble_eq_true rfl), (Nat.le_of_ble_eq_true rfl)⟩ dX6_writeNumbers_132) hS rfl (fun w16 H locs hQ hP hD hS => ?_)
  have hF := hF.call 1 hQ.2 (by decide)
  have hB0 : Blk w16 k (cScribe D α k ((S_X6_writeNumbers_132 tx txl nums).1) ((S_X6_writeNumbers_132 tx txl nums).2)) := hB0.splice 1 hQ.1 hQ.2 rfl (Nat.le_of_ble_eq_true rfl)
  refine lv_aload_n S.1 S.2.1 dX6_writeNumbers_135 rfl (lv_at hl 1 rfl) ?_
  refine lv_aload_n S.1 S.2.1 dX6_writeNumbers_136 rfl (lv_at hl 2 rfl) ?_
  refine lv_bipush (v := 9) S.1 S.2.1 dX6_writeNumbers_137 (by decide) ?_
  refine g_aftR0 (st1 := [.int (f_X7_numberOf nums 9), .ref (α (k))]) (g_V (As := [.int 9]) (rest := [.ref (α (k))]) S mi_X7_numberOf qw1492 (c_X7_numberOf l D A w16 α (k2) nums bNames pNames fBoats nB nP 9 (hB1.other hF hd1)) hK hP hD hE hS ((hB1.other hF hd1) 0 _ rfl) rfl rfl rfl hl.1 (Nat.le_of_ble_eq_true rfl) rfl rfl ⟨(Nat.le_of_ble_eq_true rfl), (Nat.le_of_ble_eq_true rfl)⟩ ⟨(Nat.le_of_ble_eq_true rfl), (Nat.le_of_ble_eq_true rfl)⟩ dX6_writeNumbers_139) hS rfl (fun locs hS => ?_)
  have hNm : (f_X6_writeNumber ((S_X6_writeNumbers_132 tx txl nums).1) ((S_X6_writeNumbers_132 tx txl nums).2) (f_X7_numberOf nums 9)) = (S_X6_writeNumbers_142 tx txl nums) := rfl
  have hCon := (c_X6_writeNumber l D A w16 α (k) ((S_X6_writeNumbers_132 tx txl nums).1) ((S_X6_writeNumbers_132 tx txl nums).2) (f_X7_numberOf nums 9) hB0)
  rw [hNm] at hCon
  refine g_aft0 (st1 := []) (g_V (As := [.int (f_X7_numberOf nums 9)]) (rest := []) S mi_X6_writeNumber qw1443 hCon hK hP hD hE hS (hB0 0 _ rfl) rfl rfl rfl hl.1 (Nat.le_of_ble_eq_true rfl) rfl rfl ⟨(Nat.le_of_ble_eq_true rfl), (Nat.le_of_ble_eq_true rfl)⟩ ⟨(Nat.le_of_ble_eq_true rfl), (Nat.le_of_ble_eq_true rfl)⟩ dX6_writeNumbers_142) hS rfl (fun w17 H locs hQ hP hD hS => ?_)
  have hF := hF.trans hQ.2
  have hB0 : Blk w17 k (cScribe D α k ((S_X6_writeNumbers_142 tx txl nums).1) ((S_X6_writeNumbers_142 tx txl nums).2)) := hQ.1
  refine lv_aload_n S.1 S.2.1 dX6_writeNumbers_145 rfl (lv_at hl 1 rfl) ?_
  refine g_get (v := .ref (α (k + 1))) S hK hP (hB0 0 _ rfl) rfl inX6 0 (by decide) qw293 rfl dX6_writeNumbers_146 ?_
  refine lv_bipush (v := 59) S.1 S.2.1 dX6_writeNumbers_149 (by decide) ?_
  have hNm : (f_X1_add 2048 ((S_X6_writeNumbers_142 tx txl nums).1) ((S_X6_writeNumbers_142 tx txl nums).2) 59) = (S_X6_writeNumbers_151 tx txl nums) := rfl
  have hCon := (c_X1_add l D A w17 α (k + 1) 2048 ((S_X6_writeNumbers_142 tx txl nums).1) ((S_X6_writeNumbers_142 tx txl nums).2) 59 (hB0.sub 1 rfl) (Nat.le_of_ble_eq_true rfl))
  rw [hNm] at hCon
  refine g_aft0 (st1 := []) (g_V (As := [.int 59]) (rest := []) S mi_X1_add qw1422 hCon hK hP hD hE hS (hB0 1 _ rfl) rfl rfl rfl hl.1 (Nat.le_of_ble_eq_true rfl) rfl rfl ⟨(Nat.le_of_ble_eq_true rfl), (Nat.le_of_ble_eq_true rfl)⟩ ⟨(Nat.le_of_ble_eq_true rfl), (Nat.le_of_ble_eq_true rfl)⟩ dX6_writeNumbers_151) hS rfl (fun w18 H locs hQ hP hD hS => ?_)
  have hF := hF.call 1 hQ.2 (by decide)
  have hB0 : Blk w18 k (cScribe D α k ((S_X6_writeNumbers_151 tx txl nums).1) ((S_X6_writeNumbers_151 tx txl nums).2)) := hB0.splice 1 hQ.1 hQ.2 rfl (Nat.le_of_ble_eq_true rfl)
  have hf : (f_X6_writeNumbers tx txl nums) = ((S_X6_writeNumbers_151 tx txl nums).1, (S_X6_writeNumbers_151 tx txl nums).2) := rfl
  exact g_vret S hr hlk hP hD hS (rfl) (⟨by rw [hf]; dsimp only; exact hB0, hF⟩) dX6_writeNumbers_154
