/-! THE LAW: setup, from its entry -/
set_option maxHeartbeats 4000000 in
set_option maxRecDepth 100000 in
theorem l_setup (l : Launch) (D : va_G) (A : Nat → Prop) (w : va_W) {k qa nH : Nat} {y : Int32} (hQ : QW D k w qa y) (hA : ∀ q, nH ≤ q → A q) : Met l yL_setup (ws_ yL_setup cL_setup 4 (Option.some (Jvm.ClassFile.FieldType.object "java/lang/String"))) ({ frames := 10, cells := 160, slots := 4000, locals := 340 } : Room) (gPx D A [.ref qa] w (fun U H => nH ≤ H.size ∧ (CN U ∧ DGf A U H))) (seQ D A w k qa) 160 4000 A := by
  refine g_metX [(0, .ref qa)] (by decide +kernel) (Nat.le_of_ble_eq_true rfl) rfl (fun pg en s mi ar below me co ls S hK hP hD hE hS hx hr hlk hnm hl => ?_)
  have hA : ∀ q, s.heap.size ≤ q → A q := fun q hq => hA q (Nat.le_trans hx.1 hq)
  have hC := hx.2.1
  have hG := hx.2.2
  have hku : k < w.length := by
    obtain ⟨f, h1, -⟩ := hQ
    exact (List.getElem?_eq_some_iff.mp h1).1
  refine g_newO (C := RJ4) (T := TJ4) (N := 4) (ci := 13) (fs := [.null, .int 0, .int 0, .int 0]) S hK hP hD hS (hA _ hS.1) inJ4 tyJ4_ok rfl qw840 qw841 qw15 (fun j hj => by match j, hj with | 0, _ => rfl | 1, _ => rfl | 2, _ => rfl | 3, _ => rfl) (Nat.le_of_ble_eq_true rfl) (Nat.le_of_ble_eq_true rfl) dL_setup_0 (fun H hz1 hold hP hD hS => ?_)
  refine lv_dup S.1 S.2.1 dL_setup_3 rfl ?_
  generalize s.heap.size = b at hP hD hz1 ⊢
  refine va_ldcS (own := RL) (q := D.2 200 30) S.1 S.2.1 S.2.2.2.1 (ldS_31 hE) dL_setup_4 ?_
  refine bc_init (u := w) (ns := 7) (L := strByt.getD 30 []) (bs := fun j => (strByt.getD 30 []).getD j 0) S qw843 hK hP hD hE hS hA (fun j hj => by have hj2 : j < (strByt.getD 30 []).length := hj; show fits .byte (.int ((strByt.getD 30 []).getD j 0)) = true; rw [List.getD_eq_getElem?_getD, List.getElem?_eq_getElem hj2]; exact (asc_ok (lit_asc30 _ (List.getElem_mem hj2))).2.2.2.1) (by decide) ⟨rfl, fun j hj => List.getD_eq_getElem?_getD ..⟩ ((hE.own hS (wd_right hD) hA).tx (i := 30) (by decide)) hl.1 (Nat.le_of_ble_eq_true rfl) ⟨(Nat.le_of_ble_eq_true rfl), (Nat.le_of_ble_eq_true rfl)⟩ ⟨(Nat.le_of_ble_eq_true rfl), (Nat.le_of_ble_eq_true rfl)⟩ dL_setup_6 (fun H locs v1 f hL hf hP hD hS => ?_)
  refine W.more (cells' := 2 + (7 + 16) / 16) (slots' := 30 + 2 * (7 + 16)) ?_ (by decide) (by decide)
  have hn : 7 ≤ 7 + 16 := by omega
  have h16 : 16 ≤ 7 + 16 := by omega
  have hm : 7 + 16 ≤ 1000 := by omega
  obtain ⟨m, hme⟩ : ∃ g, g = 7 + 16 := ⟨_, rfl⟩
  rw [← hme] at hP hD hn h16 hm ⊢
  clear hme
  rw [lsN30] at hL
  have hb : 7 ≤ 7 := Nat.le_refl _
  clear hz1 hold
  obtain ⟨u, hue⟩ : ∃ u, u = w := ⟨_, rfl⟩
  rw [← hue] at hP hD hQ hku
  have hsk : Same w u k 1 := by rw [hue]; exact Same.rf
  clear hue
  refine lv_iconst (v := 3) S.1 S.2.1 dL_setup_9 (by decide) ?_
  refine lv_aload_n S.1 S.2.1 dL_setup_10 rfl (lv_at hl 0 rfl) ?_
  refine x_aftQ (st1 := [.int (drw (dnx y)), .int 3, .ref b]) (x_St0 (As := [.ref qa]) (rest := [.int 3, .ref b]) S ms_L_draw qw972 (l_drawS l D A (u ++ sbW D b v1 m f 7) (hQ.app hku)) hK hP hD (hE.kept hS.2.1) rfl rfl hl.1 (Nat.le_of_ble_eq_true rfl) rfl rfl ⟨(Nat.le_of_ble_eq_true rfl), (Nat.le_of_ble_eq_true rfl)⟩ ⟨(by show 2 + m / 16 + 0 ≤ 160; omega), (by show 30 + 2 * m + 0 ≤ 4000; omega)⟩ dL_setup_11) hS (fun _ h => h) rfl (fun w1 H locs hq hP hD hz hk hS => ?_)
  obtain ⟨hQ1, hsm⟩ := hq
  clear hz hk
  obtain ⟨u, rfl, hsu⟩ := w_sameK hsm hku
  clear hsm
  have hku : k < u.length := by rw [hsu.1]; exact hku
  have hQ := hQ1.left hku
  have hsk := hsk.trans hsu
  clear hQ1 hsu
  obtain ⟨d1, hd1, ed1⟩ := drw_at (dnx y)
  rw [ed1]
  clear ed1
  generalize dnx y = y at hQ
  refine lv_bipush (v := 20) S.1 S.2.1 dL_setup_14 (by decide) ?_
  refine lv_irem S.1 S.2.1 dL_setup_16 (by decide) ?_
  rw [show nI d1 - nI d1 / 20 * 20 = nI (d1 % 20) from pk_rem (d := 20) (by omega) (by decide) (by decide)]
  refine lv_iadd S.1 S.2.1 dL_setup_17 ?_
  rw [show (3 : Int32) + nI (d1 % 20) = nI (3 + d1 % 20) from nI_add 3 (d1 % 20)]
  obtain ⟨m0, hm0⟩ : ∃ z, z = 3 + d1 % 20 := ⟨_, rfl⟩
  rw [← hm0]
  have bm0 : 1 ≤ m0 ∧ m0 ≤ 100 := by omega
  clear hm0
  obtain ⟨qm0, hqm0⟩ : ∃ w, w = numL (nI m0) := ⟨_, rfl⟩
  have e9 : decL (nI m0) = qm0.map nI := by rw [hqm0]; exact decl_n _ (by omega)
  have e8 : qm0.length ≤ 3 := by rw [hqm0]; exact (num_ok100 _ (by omega)).2.1
  refine bw_in (x := nI m0) (M := 1000) (cb := 2) (sb := 30) S qw976 hK hP hD hE hS hA hf hn h16 hm (Nat.le_of_ble_eq_true rfl) hL hG (by rw [e9, List.length_map]; omega) hl.1 (Nat.le_of_ble_eq_true rfl) ⟨(Nat.le_of_ble_eq_true rfl), (Nat.le_of_ble_eq_true rfl)⟩ ⟨(by show 2 + 1000 / 16 ≤ 160; omega), (by show 30 + 2 * 1000 ≤ 4000; omega)⟩ dL_setup_18 (fun H locs v1 f k2 m e1 hL hf hn h16 hm hP hD hS => ?_)
  rw [e9, List.length_map] at e1
  have hb : k2 ≤ 7 + 3 := by skip; omega
  clear e1
  have hL : BC f k2 (([115, 101, 97, 115, 111, 110, 32] ++ qm0).map nI) := by
    rw [List.map_append, ← e9]
    exact hL
  clear e9
  refine va_ldcS (own := RL) (q := D.2 200 31) S.1 S.2.1 S.2.2.2.1 (ldS_32 hE) dL_setup_21 ?_
  refine bw_lit (i := 31) (M := 1000) (cb := 2) (sb := 30) S qw1002 hK hP hD hE hS hA hf hn h16 hm (Nat.le_of_ble_eq_true rfl) hL (by decide) rfl lit_asc31 (by decide) (by show 2 * (k2 + 8) ≤ 1000; omega) hl.1 (Nat.le_of_ble_eq_true rfl) ⟨(Nat.le_of_ble_eq_true rfl), (Nat.le_of_ble_eq_true rfl)⟩ ⟨(by show 2 + 1000 / 16 ≤ 160; omega), (by show 30 + 2 * 1000 ≤ 4000; omega)⟩ dL_setup_23 (fun H locs v1 f k3 m e1 hL hf hn h16 hm hP hD hS => ?_)
  have hb : k3 ≤ 10 + 8 := by have e2 : k3 = k2 + 8 := e1; omega
  clear e1
  have hL : BC f k3 ((([115, 101, 97, 115, 111, 110, 32] ++ qm0) ++ [32, 115, 104, 97, 114, 101, 115, 32]).map nI) := by
    rw [List.map_append, ← lsN31]
    exact hL
  refine lv_aload_n S.1 S.2.1 dL_setup_26 rfl (lv_at hl 0 rfl) ?_
  refine x_aftQ (st1 := [.int (drw (dnx y)), .ref b]) (x_St0 (As := [.ref qa]) (rest := [.ref b]) S ms_L_draw qw972 (l_drawS l D A (u ++ sbW D b v1 m f k3) (hQ.app hku)) hK hP hD (hE.kept hS.2.1) rfl rfl hl.1 (Nat.le_of_ble_eq_true rfl) rfl rfl ⟨(Nat.le_of_ble_eq_true rfl), (Nat.le_of_ble_eq_true rfl)⟩ ⟨(by show 2 + m / 16 + 0 ≤ 160; omega), (by show 30 + 2 * m + 0 ≤ 4000; omega)⟩ dL_setup_27) hS (fun _ h => h) rfl (fun w4 H locs hq hP hD hz hk hS => ?_)
  obtain ⟨hQ1, hsm⟩ := hq
  clear hz hk
  obtain ⟨u, rfl, hsu⟩ := w_sameK hsm hku
  clear hsm
  have hku : k < u.length := by rw [hsu.1]; exact hku
  have hQ := hQ1.left hku
  have hsk := hsk.trans hsu
  clear hQ1 hsu
  obtain ⟨d4, hd4, ed4⟩ := drw_at (dnx y)
  rw [ed4]
  clear ed4
  generalize dnx y = y at hQ
  refine lv_bipush (v := 90) S.1 S.2.1 dL_setup_30 (by decide) ?_
  refine lv_irem S.1 S.2.1 dL_setup_32 (by decide) ?_
  rw [show nI d4 - nI d4 / 90 * 90 = nI (d4 % 90) from pk_rem (d := 90) (by omega) (by decide) (by decide)]
  obtain ⟨m1, hm1⟩ : ∃ z, z = d4 % 90 := ⟨_, rfl⟩
  rw [← hm1]
  have bm1 : m1 ≤ 100 := by omega
  clear hm1
  obtain ⟨qm1, hqm1⟩ : ∃ w, w = numL (nI m1) := ⟨_, rfl⟩
  have e9 : decL (nI m1) = qm1.map nI := by rw [hqm1]; exact decl_n _ (by omega)
  have e8 : qm1.length ≤ 3 := by rw [hqm1]; exact (num_ok100 _ (by omega)).2.1
  refine bw_in (x := nI m1) (M := 1000) (cb := 2) (sb := 30) S qw976 hK hP hD hE hS hA hf hn h16 hm (Nat.le_of_ble_eq_true rfl) hL hG (by rw [e9, List.length_map]; omega) hl.1 (Nat.le_of_ble_eq_true rfl) ⟨(Nat.le_of_ble_eq_true rfl), (Nat.le_of_ble_eq_true rfl)⟩ ⟨(by show 2 + 1000 / 16 ≤ 160; omega), (by show 30 + 2 * 1000 ≤ 4000; omega)⟩ dL_setup_33 (fun H locs v1 f k5 m e1 hL hf hn h16 hm hP hD hS => ?_)
  rw [e9, List.length_map] at e1
  have hb : k5 ≤ 18 + 3 := by skip; omega
  clear e1
  have hL : BC f k5 (((([115, 101, 97, 115, 111, 110, 32] ++ qm0) ++ [32, 115, 104, 97, 114, 101, 115, 32]) ++ qm1).map nI) := by
    rw [List.map_append, ← e9]
    exact hL
  clear e9
  refine lv_bipush (v := 32) S.1 S.2.1 dL_setup_36 (by decide) ?_
  refine bw_ch (c := 32) (M := 1000) (cb := 2) (sb := 30) S qw1003 hK hP hD hE hS hA hf hn h16 hm (Nat.le_of_ble_eq_true rfl) hL (show (0 : Int32) ≤ 32 ∧ (32 : Int32) < 128 by decide) (by show 2 * (k5 + 1) ≤ 1000; omega) hl.1 (Nat.le_of_ble_eq_true rfl) ⟨(Nat.le_of_ble_eq_true rfl), (Nat.le_of_ble_eq_true rfl)⟩ ⟨(by show 2 + 1000 / 16 ≤ 160; omega), (by show 30 + 2 * 1000 ≤ 4000; omega)⟩ dL_setup_38 (fun H locs v1 f k6 m e1 hL hf hn h16 hm hP hD hS => ?_)
  have hb : k6 ≤ 21 + 1 := by have e2 : k6 = k5 + 1 := e1; omega
  clear e1
  have hL : BC f k6 ((((([115, 101, 97, 115, 111, 110, 32] ++ qm0) ++ [32, 115, 104, 97, 114, 101, 115, 32]) ++ qm1) ++ [32]).map nI) := by
    rw [List.map_append]
    exact hL
  refine lv_aload_n S.1 S.2.1 dL_setup_41 rfl (lv_at hl 0 rfl) ?_
  refine x_aftQ (st1 := [.int (drw (dnx y)), .ref b]) (x_St0 (As := [.ref qa]) (rest := [.ref b]) S ms_L_draw qw972 (l_drawS l D A (u ++ sbW D b v1 m f k6) (hQ.app hku)) hK hP hD (hE.kept hS.2.1) rfl rfl hl.1 (Nat.le_of_ble_eq_true rfl) rfl rfl ⟨(Nat.le_of_ble_eq_true rfl), (Nat.le_of_ble_eq_true rfl)⟩ ⟨(by show 2 + m / 16 + 0 ≤ 160; omega), (by show 30 + 2 * m + 0 ≤ 4000; omega)⟩ dL_setup_42) hS (fun _ h => h) rfl (fun w7 H locs hq hP hD hz hk hS => ?_)
  obtain ⟨hQ1, hsm⟩ := hq
  clear hz hk
  obtain ⟨u, rfl, hsu⟩ := w_sameK hsm hku
  clear hsm
  have hku : k < u.length := by rw [hsu.1]; exact hku
  have hQ := hQ1.left hku
  have hsk := hsk.trans hsu
  clear hQ1 hsu
  obtain ⟨d7, hd7, ed7⟩ := drw_at (dnx y)
  rw [ed7]
  clear ed7
  generalize dnx y = y at hQ
  refine lv_bipush (v := 90) S.1 S.2.1 dL_setup_45 (by decide) ?_
  refine lv_irem S.1 S.2.1 dL_setup_47 (by decide) ?_
  rw [show nI d7 - nI d7 / 90 * 90 = nI (d7 % 90) from pk_rem (d := 90) (by omega) (by decide) (by decide)]
  obtain ⟨m2, hm2⟩ : ∃ z, z = d7 % 90 := ⟨_, rfl⟩
  rw [← hm2]
  have bm2 : m2 ≤ 100 := by omega
  clear hm2
  obtain ⟨qm2, hqm2⟩ : ∃ w, w = numL (nI m2) := ⟨_, rfl⟩
  have e9 : decL (nI m2) = qm2.map nI := by rw [hqm2]; exact decl_n _ (by omega)
  have e8 : qm2.length ≤ 3 := by rw [hqm2]; exact (num_ok100 _ (by omega)).2.1
  refine bw_in (x := nI m2) (M := 1000) (cb := 2) (sb := 30) S qw976 hK hP hD hE hS hA hf hn h16 hm (Nat.le_of_ble_eq_true rfl) hL hG (by rw [e9, List.length_map]; omega) hl.1 (Nat.le_of_ble_eq_true rfl) ⟨(Nat.le_of_ble_eq_true rfl), (Nat.le_of_ble_eq_true rfl)⟩ ⟨(by show 2 + 1000 / 16 ≤ 160; omega), (by show 30 + 2 * 1000 ≤ 4000; omega)⟩ dL_setup_48 (fun H locs v1 f k8 m e1 hL hf hn h16 hm hP hD hS => ?_)
  rw [e9, List.length_map] at e1
  have hb : k8 ≤ 22 + 3 := by skip; omega
  clear e1
  have hL : BC f k8 (((((([115, 101, 97, 115, 111, 110, 32] ++ qm0) ++ [32, 115, 104, 97, 114, 101, 115, 32]) ++ qm1) ++ [32]) ++ qm2).map nI) := by
    rw [List.map_append, ← e9]
    exact hL
  clear e9
  refine lv_bipush (v := 32) S.1 S.2.1 dL_setup_51 (by decide) ?_
  refine bw_ch (c := 32) (M := 1000) (cb := 2) (sb := 30) S qw1003 hK hP hD hE hS hA hf hn h16 hm (Nat.le_of_ble_eq_true rfl) hL (show (0 : Int32) ≤ 32 ∧ (32 : Int32) < 128 by decide) (by show 2 * (k8 + 1) ≤ 1000; omega) hl.1 (Nat.le_of_ble_eq_true rfl) ⟨(Nat.le_of_ble_eq_true rfl), (Nat.le_of_ble_eq_true rfl)⟩ ⟨(by show 2 + 1000 / 16 ≤ 160; omega), (by show 30 + 2 * 1000 ≤ 4000; omega)⟩ dL_setup_53 (fun H locs v1 f k9 m e1 hL hf hn h16 hm hP hD hS => ?_)
  have hb : k9 ≤ 25 + 1 := by have e2 : k9 = k8 + 1 := e1; omega
  clear e1
  have hL : BC f k9 ((((((([115, 101, 97, 115, 111, 110, 32] ++ qm0) ++ [32, 115, 104, 97, 114, 101, 115, 32]) ++ qm1) ++ [32]) ++ qm2) ++ [32]).map nI) := by
    rw [List.map_append]
    exact hL
  refine lv_aload_n S.1 S.2.1 dL_setup_56 rfl (lv_at hl 0 rfl) ?_
  refine x_aftQ (st1 := [.int (drw (dnx y)), .ref b]) (x_St0 (As := [.ref qa]) (rest := [.ref b]) S ms_L_draw qw972 (l_drawS l D A (u ++ sbW D b v1 m f k9) (hQ.app hku)) hK hP hD (hE.kept hS.2.1) rfl rfl hl.1 (Nat.le_of_ble_eq_true rfl) rfl rfl ⟨(Nat.le_of_ble_eq_true rfl), (Nat.le_of_ble_eq_true rfl)⟩ ⟨(by show 2 + m / 16 + 0 ≤ 160; omega), (by show 30 + 2 * m + 0 ≤ 4000; omega)⟩ dL_setup_57) hS (fun _ h => h) rfl (fun w10 H locs hq hP hD hz hk hS => ?_)
  obtain ⟨hQ1, hsm⟩ := hq
  clear hz hk
  obtain ⟨u, rfl, hsu⟩ := w_sameK hsm hku
  clear hsm
  have hku : k < u.length := by rw [hsu.1]; exact hku
  have hQ := hQ1.left hku
  have hsk := hsk.trans hsu
  clear hQ1 hsu
  obtain ⟨d10, hd10, ed10⟩ := drw_at (dnx y)
  rw [ed10]
  clear ed10
  generalize dnx y = y at hQ
  refine lv_bipush (v := 90) S.1 S.2.1 dL_setup_60 (by decide) ?_
  refine lv_irem S.1 S.2.1 dL_setup_62 (by decide) ?_
  rw [show nI d10 - nI d10 / 90 * 90 = nI (d10 % 90) from pk_rem (d := 90) (by omega) (by decide) (by decide)]
  obtain ⟨m3, hm3⟩ : ∃ z, z = d10 % 90 := ⟨_, rfl⟩
  rw [← hm3]
  have bm3 : m3 ≤ 100 := by omega
  clear hm3
  obtain ⟨qm3, hqm3⟩ : ∃ w, w = numL (nI m3) := ⟨_, rfl⟩
  have e9 : decL (nI m3) = qm3.map nI := by rw [hqm3]; exact decl_n _ (by omega)
  have e8 : qm3.length ≤ 3 := by rw [hqm3]; exact (num_ok100 _ (by omega)).2.1
  refine bw_in (x := nI m3) (M := 1000) (cb := 2) (sb := 30) S qw976 hK hP hD hE hS hA hf hn h16 hm (Nat.le_of_ble_eq_true rfl) hL hG (by rw [e9, List.length_map]; omega) hl.1 (Nat.le_of_ble_eq_true rfl) ⟨(Nat.le_of_ble_eq_true rfl), (Nat.le_of_ble_eq_true rfl)⟩ ⟨(by show 2 + 1000 / 16 ≤ 160; omega), (by show 30 + 2 * 1000 ≤ 4000; omega)⟩ dL_setup_63 (fun H locs v1 f k11 m e1 hL hf hn h16 hm hP hD hS => ?_)
  rw [e9, List.length_map] at e1
  have hb : k11 ≤ 26 + 3 := by skip; omega
  clear e1
  have hL : BC f k11 (((((((([115, 101, 97, 115, 111, 110, 32] ++ qm0) ++ [32, 115, 104, 97, 114, 101, 115, 32]) ++ qm1) ++ [32]) ++ qm2) ++ [32]) ++ qm3).map nI) := by
    rw [List.map_append, ← e9]
    exact hL
  clear e9
  refine lv_bipush (v := 32) S.1 S.2.1 dL_setup_66 (by decide) ?_
  refine bw_ch (c := 32) (M := 1000) (cb := 2) (sb := 30) S qw1003 hK hP hD hE hS hA hf hn h16 hm (Nat.le_of_ble_eq_true rfl) hL (show (0 : Int32) ≤ 32 ∧ (32 : Int32) < 128 by decide) (by show 2 * (k11 + 1) ≤ 1000; omega) hl.1 (Nat.le_of_ble_eq_true rfl) ⟨(Nat.le_of_ble_eq_true rfl), (Nat.le_of_ble_eq_true rfl)⟩ ⟨(by show 2 + 1000 / 16 ≤ 160; omega), (by show 30 + 2 * 1000 ≤ 4000; omega)⟩ dL_setup_68 (fun H locs v1 f k12 m e1 hL hf hn h16 hm hP hD hS => ?_)
  have hb : k12 ≤ 29 + 1 := by have e2 : k12 = k11 + 1 := e1; omega
  clear e1
  have hL : BC f k12 ((((((((([115, 101, 97, 115, 111, 110, 32] ++ qm0) ++ [32, 115, 104, 97, 114, 101, 115, 32]) ++ qm1) ++ [32]) ++ qm2) ++ [32]) ++ qm3) ++ [32]).map nI) := by
    rw [List.map_append]
    exact hL
  refine lv_aload_n S.1 S.2.1 dL_setup_71 rfl (lv_at hl 0 rfl) ?_
  refine x_aftQ (st1 := [.int (drw (dnx y)), .ref b]) (x_St0 (As := [.ref qa]) (rest := [.ref b]) S ms_L_draw qw972 (l_drawS l D A (u ++ sbW D b v1 m f k12) (hQ.app hku)) hK hP hD (hE.kept hS.2.1) rfl rfl hl.1 (Nat.le_of_ble_eq_true rfl) rfl rfl ⟨(Nat.le_of_ble_eq_true rfl), (Nat.le_of_ble_eq_true rfl)⟩ ⟨(by show 2 + m / 16 + 0 ≤ 160; omega), (by show 30 + 2 * m + 0 ≤ 4000; omega)⟩ dL_setup_72) hS (fun _ h => h) rfl (fun w13 H locs hq hP hD hz hk hS => ?_)
  obtain ⟨hQ1, hsm⟩ := hq
  clear hz hk
  obtain ⟨u, rfl, hsu⟩ := w_sameK hsm hku
  clear hsm
  have hku : k < u.length := by rw [hsu.1]; exact hku
  have hQ := hQ1.left hku
  have hsk := hsk.trans hsu
  clear hQ1 hsu
  obtain ⟨d13, hd13, ed13⟩ := drw_at (dnx y)
  rw [ed13]
  clear ed13
  generalize dnx y = y at hQ
  refine lv_bipush (v := 90) S.1 S.2.1 dL_setup_75 (by decide) ?_
  refine lv_irem S.1 S.2.1 dL_setup_77 (by decide) ?_
  rw [show nI d13 - nI d13 / 90 * 90 = nI (d13 % 90) from pk_rem (d := 90) (by omega) (by decide) (by decide)]
  obtain ⟨m4, hm4⟩ : ∃ z, z = d13 % 90 := ⟨_, rfl⟩
  rw [← hm4]
  have bm4 : m4 ≤ 100 := by omega
  clear hm4
  obtain ⟨qm4, hqm4⟩ : ∃ w, w = numL (nI m4) := ⟨_, rfl⟩
  have e9 : decL (nI m4) = qm4.map nI := by rw [hqm4]; exact decl_n _ (by omega)
  have e8 : qm4.length ≤ 3 := by rw [hqm4]; exact (num_ok100 _ (by omega)).2.1
  refine bw_in (x := nI m4) (M := 1000) (cb := 2) (sb := 30) S qw976 hK hP hD hE hS hA hf hn h16 hm (Nat.le_of_ble_eq_true rfl) hL hG (by rw [e9, List.length_map]; omega) hl.1 (Nat.le_of_ble_eq_true rfl) ⟨(Nat.le_of_ble_eq_true rfl), (Nat.le_of_ble_eq_true rfl)⟩ ⟨(by show 2 + 1000 / 16 ≤ 160; omega), (by show 30 + 2 * 1000 ≤ 4000; omega)⟩ dL_setup_78 (fun H locs v1 f k14 m e1 hL hf hn h16 hm hP hD hS => ?_)
  rw [e9, List.length_map] at e1
  have hb : k14 ≤ 30 + 3 := by skip; omega
  clear e1
  have hL : BC f k14 (((((((((([115, 101, 97, 115, 111, 110, 32] ++ qm0) ++ [32, 115, 104, 97, 114, 101, 115, 32]) ++ qm1) ++ [32]) ++ qm2) ++ [32]) ++ qm3) ++ [32]) ++ qm4).map nI) := by
    rw [List.map_append, ← e9]
    exact hL
  clear e9
  refine va_ldcS (own := RL) (q := D.2 200 32) S.1 S.2.1 S.2.2.2.1 (ldS_33 hE) dL_setup_81 ?_
  refine bw_lit (i := 32) (M := 1000) (cb := 2) (sb := 30) S qw1002 hK hP hD hE hS hA hf hn h16 hm (Nat.le_of_ble_eq_true rfl) hL (by decide) rfl lit_asc32 (by decide) (by show 2 * (k14 + 6) ≤ 1000; omega) hl.1 (Nat.le_of_ble_eq_true rfl) ⟨(Nat.le_of_ble_eq_true rfl), (Nat.le_of_ble_eq_true rfl)⟩ ⟨(by show 2 + 1000 / 16 ≤ 160; omega), (by show 30 + 2 * 1000 ≤ 4000; omega)⟩ dL_setup_83 (fun H locs v1 f k15 m e1 hL hf hn h16 hm hP hD hS => ?_)
  have hb : k15 ≤ 33 + 6 := by have e2 : k15 = k14 + 6 := e1; omega
  clear e1
  have hL : BC f k15 ((((((((((([115, 101, 97, 115, 111, 110, 32] ++ qm0) ++ [32, 115, 104, 97, 114, 101, 115, 32]) ++ qm1) ++ [32]) ++ qm2) ++ [32]) ++ qm3) ++ [32]) ++ qm4) ++ [32, 108, 101, 115, 115, 32]).map nI) := by
    rw [List.map_append, ← lsN32]
    exact hL
  refine lv_aload_n S.1 S.2.1 dL_setup_86 rfl (lv_at hl 0 rfl) ?_
  refine x_aftQ (st1 := [.int (drw (dnx y)), .ref b]) (x_St0 (As := [.ref qa]) (rest := [.ref b]) S ms_L_draw qw972 (l_drawS l D A (u ++ sbW D b v1 m f k15) (hQ.app hku)) hK hP hD (hE.kept hS.2.1) rfl rfl hl.1 (Nat.le_of_ble_eq_true rfl) rfl rfl ⟨(Nat.le_of_ble_eq_true rfl), (Nat.le_of_ble_eq_true rfl)⟩ ⟨(by show 2 + m / 16 + 0 ≤ 160; omega), (by show 30 + 2 * m + 0 ≤ 4000; omega)⟩ dL_setup_87) hS (fun _ h => h) rfl (fun w16 H locs hq hP hD hz hk hS => ?_)
  obtain ⟨hQ1, hsm⟩ := hq
  clear hz hk
  obtain ⟨u, rfl, hsu⟩ := w_sameK hsm hku
  clear hsm
  have hku : k < u.length := by rw [hsu.1]; exact hku
  have hQ := hQ1.left hku
  have hsk := hsk.trans hsu
  clear hQ1 hsu
  obtain ⟨d16, hd16, ed16⟩ := drw_at (dnx y)
  rw [ed16]
  clear ed16
  generalize dnx y = y at hQ
  refine lv_iconst (v := 3) S.1 S.2.1 dL_setup_90 (by decide) ?_
  refine lv_irem S.1 S.2.1 dL_setup_91 (by decide) ?_
  rw [show nI d16 - nI d16 / 3 * 3 = nI (d16 % 3) from pk_rem (d := 3) (by omega) (by decide) (by decide)]
  obtain ⟨m5, hm5⟩ : ∃ z, z = d16 % 3 := ⟨_, rfl⟩
  rw [← hm5]
  have bm5 : m5 ≤ 9 := by omega
  clear hm5
  obtain ⟨qm5, hqm5⟩ : ∃ w, w = numL (nI m5) := ⟨_, rfl⟩
  have e9 : decL (nI m5) = qm5.map nI := by rw [hqm5]; exact decl_n _ (by omega)
  have e8 : qm5.length ≤ 3 := by rw [hqm5]; exact (num_ok100 _ (by omega)).2.1
  refine bw_in (x := nI m5) (M := 1000) (cb := 2) (sb := 30) S qw976 hK hP hD hE hS hA hf hn h16 hm (Nat.le_of_ble_eq_true rfl) hL hG (by rw [e9, List.length_map]; omega) hl.1 (Nat.le_of_ble_eq_true rfl) ⟨(Nat.le_of_ble_eq_true rfl), (Nat.le_of_ble_eq_true rfl)⟩ ⟨(by show 2 + 1000 / 16 ≤ 160; omega), (by show 30 + 2 * 1000 ≤ 4000; omega)⟩ dL_setup_92 (fun H locs v1 f k17 m e1 hL hf hn h16 hm hP hD hS => ?_)
  rw [e9, List.length_map] at e1
  have hb : k17 ≤ 39 + 3 := by skip; omega
  clear e1
  have hL : BC f k17 (((((((((((([115, 101, 97, 115, 111, 110, 32] ++ qm0) ++ [32, 115, 104, 97, 114, 101, 115, 32]) ++ qm1) ++ [32]) ++ qm2) ++ [32]) ++ qm3) ++ [32]) ++ qm4) ++ [32, 108, 101, 115, 115, 32]) ++ qm5).map nI) := by
    rw [List.map_append, ← e9]
    exact hL
  clear e9
  refine va_ldcS (own := RL) (q := D.2 200 33) S.1 S.2.1 S.2.2.2.1 (ldS_34 hE) dL_setup_95 ?_
  refine bw_lit (i := 33) (M := 1000) (cb := 2) (sb := 30) S qw1002 hK hP hD hE hS hA hf hn h16 hm (Nat.le_of_ble_eq_true rfl) hL (by decide) rfl lit_asc33 (by decide) (by show 2 * (k17 + 7) ≤ 1000; omega) hl.1 (Nat.le_of_ble_eq_true rfl) ⟨(Nat.le_of_ble_eq_true rfl), (Nat.le_of_ble_eq_true rfl)⟩ ⟨(by show 2 + 1000 / 16 ≤ 160; omega), (by show 30 + 2 * 1000 ≤ 4000; omega)⟩ dL_setup_97 (fun H locs v1 f k18 m e1 hL hf hn h16 hm hP hD hS => ?_)
  have hb : k18 ≤ 42 + 7 := by have e2 : k18 = k17 + 7 := e1; omega
  clear e1
  have hL : BC f k18 ((((((((((((([115, 101, 97, 115, 111, 110, 32] ++ qm0) ++ [32, 115, 104, 97, 114, 101, 115, 32]) ++ qm1) ++ [32]) ++ qm2) ++ [32]) ++ qm3) ++ [32]) ++ qm4) ++ [32, 108, 101, 115, 115, 32]) ++ qm5) ++ [32, 108, 101, 97, 115, 116, 32]).map nI) := by
    rw [List.map_append, ← lsN33]
    exact hL
  refine lv_iconst (v := 1) S.1 S.2.1 dL_setup_100 (by decide) ?_
  refine lv_aload_n S.1 S.2.1 dL_setup_101 rfl (lv_at hl 0 rfl) ?_
  refine x_aftQ (st1 := [.int (drw (dnx y)), .int 1, .ref b]) (x_St0 (As := [.ref qa]) (rest := [.int 1, .ref b]) S ms_L_draw qw972 (l_drawS l D A (u ++ sbW D b v1 m f k18) (hQ.app hku)) hK hP hD (hE.kept hS.2.1) rfl rfl hl.1 (Nat.le_of_ble_eq_true rfl) rfl rfl ⟨(Nat.le_of_ble_eq_true rfl), (Nat.le_of_ble_eq_true rfl)⟩ ⟨(by show 2 + m / 16 + 0 ≤ 160; omega), (by show 30 + 2 * m + 0 ≤ 4000; omega)⟩ dL_setup_102) hS (fun _ h => h) rfl (fun w19 H locs hq hP hD hz hk hS => ?_)
  obtain ⟨hQ1, hsm⟩ := hq
  clear hz hk
  obtain ⟨u, rfl, hsu⟩ := w_sameK hsm hku
  clear hsm
  have hku : k < u.length := by rw [hsu.1]; exact hku
  have hQ := hQ1.left hku
  have hsk := hsk.trans hsu
  clear hQ1 hsu
  obtain ⟨d19, hd19, ed19⟩ := drw_at (dnx y)
  rw [ed19]
  clear ed19
  generalize dnx y = y at hQ
  refine lv_iconst (v := 4) S.1 S.2.1 dL_setup_105 (by decide) ?_
  refine lv_irem S.1 S.2.1 dL_setup_106 (by decide) ?_
  rw [show nI d19 - nI d19 / 4 * 4 = nI (d19 % 4) from pk_rem (d := 4) (by omega) (by decide) (by decide)]
  refine lv_iadd S.1 S.2.1 dL_setup_107 ?_
  rw [show (1 : Int32) + nI (d19 % 4) = nI (1 + d19 % 4) from nI_add 1 (d19 % 4)]
  obtain ⟨m6, hm6⟩ : ∃ z, z = 1 + d19 % 4 := ⟨_, rfl⟩
  rw [← hm6]
  have bm6 : 1 ≤ m6 ∧ m6 ≤ 20 := by omega
  clear hm6
  obtain ⟨qm6, hqm6⟩ : ∃ w, w = numL (nI m6) := ⟨_, rfl⟩
  have e9 : decL (nI m6) = qm6.map nI := by rw [hqm6]; exact decl_n _ (by omega)
  have e8 : qm6.length ≤ 3 := by rw [hqm6]; exact (num_ok100 _ (by omega)).2.1
  refine bw_in (x := nI m6) (M := 1000) (cb := 2) (sb := 30) S qw976 hK hP hD hE hS hA hf hn h16 hm (Nat.le_of_ble_eq_true rfl) hL hG (by rw [e9, List.length_map]; omega) hl.1 (Nat.le_of_ble_eq_true rfl) ⟨(Nat.le_of_ble_eq_true rfl), (Nat.le_of_ble_eq_true rfl)⟩ ⟨(by show 2 + 1000 / 16 ≤ 160; omega), (by show 30 + 2 * 1000 ≤ 4000; omega)⟩ dL_setup_108 (fun H locs v1 f k20 m e1 hL hf hn h16 hm hP hD hS => ?_)
  rw [e9, List.length_map] at e1
  have hb : k20 ≤ 49 + 3 := by skip; omega
  clear e1
  have hL : BC f k20 (((((((((((((([115, 101, 97, 115, 111, 110, 32] ++ qm0) ++ [32, 115, 104, 97, 114, 101, 115, 32]) ++ qm1) ++ [32]) ++ qm2) ++ [32]) ++ qm3) ++ [32]) ++ qm4) ++ [32, 108, 101, 115, 115, 32]) ++ qm5) ++ [32, 108, 101, 97, 115, 116, 32]) ++ qm6).map nI) := by
    rw [List.map_append, ← e9]
    exact hL
  clear e9
  refine va_ldcS (own := RL) (q := D.2 200 34) S.1 S.2.1 S.2.2.2.1 (ldS_35 hE) dL_setup_111 ?_
  refine bw_lit (i := 34) (M := 1000) (cb := 2) (sb := 30) S qw1002 hK hP hD hE hS hA hf hn h16 hm (Nat.le_of_ble_eq_true rfl) hL (by decide) rfl lit_asc34 (by decide) (by show 2 * (k20 + 7) ≤ 1000; omega) hl.1 (Nat.le_of_ble_eq_true rfl) ⟨(Nat.le_of_ble_eq_true rfl), (Nat.le_of_ble_eq_true rfl)⟩ ⟨(by show 2 + 1000 / 16 ≤ 160; omega), (by show 30 + 2 * 1000 ≤ 4000; omega)⟩ dL_setup_113 (fun H locs v1 f k21 m e1 hL hf hn h16 hm hP hD hS => ?_)
  have hb : k21 ≤ 52 + 7 := by have e2 : k21 = k20 + 7 := e1; omega
  clear e1
  have hL : BC f k21 ((((((((((((((([115, 101, 97, 115, 111, 110, 32] ++ qm0) ++ [32, 115, 104, 97, 114, 101, 115, 32]) ++ qm1) ++ [32]) ++ qm2) ++ [32]) ++ qm3) ++ [32]) ++ qm4) ++ [32, 108, 101, 115, 115, 32]) ++ qm5) ++ [32, 108, 101, 97, 115, 116, 32]) ++ qm6) ++ [32, 99, 97, 114, 114, 121, 32]).map nI) := by
    rw [List.map_append, ← lsN34]
    exact hL
  refine lv_aload_n S.1 S.2.1 dL_setup_116 rfl (lv_at hl 0 rfl) ?_
  refine x_aftQ (st1 := [.int (drw (dnx y)), .ref b]) (x_St0 (As := [.ref qa]) (rest := [.ref b]) S ms_L_draw qw972 (l_drawS l D A (u ++ sbW D b v1 m f k21) (hQ.app hku)) hK hP hD (hE.kept hS.2.1) rfl rfl hl.1 (Nat.le_of_ble_eq_true rfl) rfl rfl ⟨(Nat.le_of_ble_eq_true rfl), (Nat.le_of_ble_eq_true rfl)⟩ ⟨(by show 2 + m / 16 + 0 ≤ 160; omega), (by show 30 + 2 * m + 0 ≤ 4000; omega)⟩ dL_setup_117) hS (fun _ h => h) rfl (fun w22 H locs hq hP hD hz hk hS => ?_)
  obtain ⟨hQ1, hsm⟩ := hq
  clear hz hk
  obtain ⟨u, rfl, hsu⟩ := w_sameK hsm hku
  clear hsm
  have hku : k < u.length := by rw [hsu.1]; exact hku
  have hQ := hQ1.left hku
  have hsk := hsk.trans hsu
  clear hQ1 hsu
  obtain ⟨d22, hd22, ed22⟩ := drw_at (dnx y)
  rw [ed22]
  clear ed22
  generalize dnx y = y at hQ
  refine lv_iconst (v := 3) S.1 S.2.1 dL_setup_120 (by decide) ?_
  refine lv_irem S.1 S.2.1 dL_setup_121 (by decide) ?_
  rw [show nI d22 - nI d22 / 3 * 3 = nI (d22 % 3) from pk_rem (d := 3) (by omega) (by decide) (by decide)]
  obtain ⟨m7, hm7⟩ : ∃ z, z = d22 % 3 := ⟨_, rfl⟩
  rw [← hm7]
  have bm7 : m7 ≤ 9 := by omega
  clear hm7
  obtain ⟨qm7, hqm7⟩ : ∃ w, w = numL (nI m7) := ⟨_, rfl⟩
  have e9 : decL (nI m7) = qm7.map nI := by rw [hqm7]; exact decl_n _ (by omega)
  have e8 : qm7.length ≤ 3 := by rw [hqm7]; exact (num_ok100 _ (by omega)).2.1
  refine bw_in (x := nI m7) (M := 1000) (cb := 2) (sb := 30) S qw976 hK hP hD hE hS hA hf hn h16 hm (Nat.le_of_ble_eq_true rfl) hL hG (by rw [e9, List.length_map]; omega) hl.1 (Nat.le_of_ble_eq_true rfl) ⟨(Nat.le_of_ble_eq_true rfl), (Nat.le_of_ble_eq_true rfl)⟩ ⟨(by show 2 + 1000 / 16 ≤ 160; omega), (by show 30 + 2 * 1000 ≤ 4000; omega)⟩ dL_setup_122 (fun H locs v1 f k23 m e1 hL hf hn h16 hm hP hD hS => ?_)
  rw [e9, List.length_map] at e1
  have hb : k23 ≤ 59 + 3 := by skip; omega
  clear e1
  have hL : BC f k23 (((((((((((((((([115, 101, 97, 115, 111, 110, 32] ++ qm0) ++ [32, 115, 104, 97, 114, 101, 115, 32]) ++ qm1) ++ [32]) ++ qm2) ++ [32]) ++ qm3) ++ [32]) ++ qm4) ++ [32, 108, 101, 115, 115, 32]) ++ qm5) ++ [32, 108, 101, 97, 115, 116, 32]) ++ qm6) ++ [32, 99, 97, 114, 114, 121, 32]) ++ qm7).map nI) := by
    rw [List.map_append, ← e9]
    exact hL
  clear e9
  refine va_ldcS (own := RL) (q := D.2 200 35) S.1 S.2.1 S.2.2.2.1 (ldS_36 hE) dL_setup_125 ?_
  refine bw_lit (i := 35) (M := 1000) (cb := 2) (sb := 30) S qw1002 hK hP hD hE hS hA hf hn h16 hm (Nat.le_of_ble_eq_true rfl) hL (by decide) rfl lit_asc35 (by decide) (by show 2 * (k23 + 8) ≤ 1000; omega) hl.1 (Nat.le_of_ble_eq_true rfl) ⟨(Nat.le_of_ble_eq_true rfl), (Nat.le_of_ble_eq_true rfl)⟩ ⟨(by show 2 + 1000 / 16 ≤ 160; omega), (by show 30 + 2 * 1000 ≤ 4000; omega)⟩ dL_setup_127 (fun H locs v1 f k24 m e1 hL hf hn h16 hm hP hD hS => ?_)
  have hb : k24 ≤ 62 + 8 := by have e2 : k24 = k23 + 8 := e1; omega
  clear e1
  have hL : BC f k24 ((((((((((((((((([115, 101, 97, 115, 111, 110, 32] ++ qm0) ++ [32, 115, 104, 97, 114, 101, 115, 32]) ++ qm1) ++ [32]) ++ qm2) ++ [32]) ++ qm3) ++ [32]) ++ qm4) ++ [32, 108, 101, 115, 115, 32]) ++ qm5) ++ [32, 108, 101, 97, 115, 116, 32]) ++ qm6) ++ [32, 99, 97, 114, 114, 121, 32]) ++ qm7) ++ [32, 97, 112, 112, 101, 97, 108, 32]).map nI) := by
    rw [List.map_append, ← lsN35]
    exact hL
  refine lv_aload_n S.1 S.2.1 dL_setup_130 rfl (lv_at hl 0 rfl) ?_
  refine x_aftQ (st1 := [.int (drw (dnx y)), .ref b]) (x_St0 (As := [.ref qa]) (rest := [.ref b]) S ms_L_draw qw972 (l_drawS l D A (u ++ sbW D b v1 m f k24) (hQ.app hku)) hK hP hD (hE.kept hS.2.1) rfl rfl hl.1 (Nat.le_of_ble_eq_true rfl) rfl rfl ⟨(Nat.le_of_ble_eq_true rfl), (Nat.le_of_ble_eq_true rfl)⟩ ⟨(by show 2 + m / 16 + 0 ≤ 160; omega), (by show 30 + 2 * m + 0 ≤ 4000; omega)⟩ dL_setup_131) hS (fun _ h => h) rfl (fun w25 H locs hq hP hD hz hk hS => ?_)
  obtain ⟨hQ1, hsm⟩ := hq
  clear hz hk
  obtain ⟨u, rfl, hsu⟩ := w_sameK hsm hku
  clear hsm
  have hku : k < u.length := by rw [hsu.1]; exact hku
  have hQ := hQ1.left hku
  have hsk := hsk.trans hsu
  clear hQ1 hsu
  obtain ⟨d25, hd25, ed25⟩ := drw_at (dnx y)
  rw [ed25]
  clear ed25
  generalize dnx y = y at hQ
  refine lv_bipush (v := 6) S.1 S.2.1 dL_setup_134 (by decide) ?_
  refine lv_irem S.1 S.2.1 dL_setup_136 (by decide) ?_
  rw [show nI d25 - nI d25 / 6 * 6 = nI (d25 % 6) from pk_rem (d := 6) (by omega) (by decide) (by decide)]
  obtain ⟨m8, hm8⟩ : ∃ z, z = d25 % 6 := ⟨_, rfl⟩
  rw [← hm8]
  have bm8 : m8 ≤ 30 := by omega
  clear hm8
  obtain ⟨qm8, hqm8⟩ : ∃ w, w = numL (nI m8) := ⟨_, rfl⟩
  have e9 : decL (nI m8) = qm8.map nI := by rw [hqm8]; exact decl_n _ (by omega)
  have e8 : qm8.length ≤ 3 := by rw [hqm8]; exact (num_ok100 _ (by omega)).2.1
  refine bw_in (x := nI m8) (M := 1000) (cb := 2) (sb := 30) S qw976 hK hP hD hE hS hA hf hn h16 hm (Nat.le_of_ble_eq_true rfl) hL hG (by rw [e9, List.length_map]; omega) hl.1 (Nat.le_of_ble_eq_true rfl) ⟨(Nat.le_of_ble_eq_true rfl), (Nat.le_of_ble_eq_true rfl)⟩ ⟨(by show 2 + 1000 / 16 ≤ 160; omega), (by show 30 + 2 * 1000 ≤ 4000; omega)⟩ dL_setup_137 (fun H locs v1 f k26 m e1 hL hf hn h16 hm hP hD hS => ?_)
  rw [e9, List.length_map] at e1
  have hb : k26 ≤ 70 + 3 := by skip; omega
  clear e1
  have hL : BC f k26 (((((((((((((((((([115, 101, 97, 115, 111, 110, 32] ++ qm0) ++ [32, 115, 104, 97, 114, 101, 115, 32]) ++ qm1) ++ [32]) ++ qm2) ++ [32]) ++ qm3) ++ [32]) ++ qm4) ++ [32, 108, 101, 115, 115, 32]) ++ qm5) ++ [32, 108, 101, 97, 115, 116, 32]) ++ qm6) ++ [32, 99, 97, 114, 114, 121, 32]) ++ qm7) ++ [32, 97, 112, 112, 101, 97, 108, 32]) ++ qm8).map nI) := by
    rw [List.map_append, ← e9]
    exact hL
  clear e9
  refine va_ldcS (own := RL) (q := D.2 200 36) S.1 S.2.1 S.2.2.2.1 (ldS_37 hE) dL_setup_140 ?_
  refine bw_lit (i := 36) (M := 1000) (cb := 2) (sb := 30) S qw1002 hK hP hD hE hS hA hf hn h16 hm (Nat.le_of_ble_eq_true rfl) hL (by decide) rfl lit_asc36 (by decide) (by show 2 * (k26 + 10) ≤ 1000; omega) hl.1 (Nat.le_of_ble_eq_true rfl) ⟨(Nat.le_of_ble_eq_true rfl), (Nat.le_of_ble_eq_true rfl)⟩ ⟨(by show 2 + 1000 / 16 ≤ 160; omega), (by show 30 + 2 * 1000 ≤ 4000; omega)⟩ dL_setup_142 (fun H locs v1 f k27 m e1 hL hf hn h16 hm hP hD hS => ?_)
  have hb : k27 ≤ 73 + 10 := by have e2 : k27 = k26 + 10 := e1; omega
  clear e1
  have hL : BC f k27 ((((((((((((((((((([115, 101, 97, 115, 111, 110, 32] ++ qm0) ++ [32, 115, 104, 97, 114, 101, 115, 32]) ++ qm1) ++ [32]) ++ qm2) ++ [32]) ++ qm3) ++ [32]) ++ qm4) ++ [32, 108, 101, 115, 115, 32]) ++ qm5) ++ [32, 108, 101, 97, 115, 116, 32]) ++ qm6) ++ [32, 99, 97, 114, 114, 121, 32]) ++ qm7) ++ [32, 97, 112, 112, 101, 97, 108, 32]) ++ qm8) ++ [32, 114, 101, 99, 111, 117, 110, 116, 115, 32]).map nI) := by
    rw [List.map_append, ← lsN36]
    exact hL
  refine lv_aload_n S.1 S.2.1 dL_setup_145 rfl (lv_at hl 0 rfl) ?_
  refine x_aftQ (st1 := [.int (drw (dnx y)), .ref b]) (x_St0 (As := [.ref qa]) (rest := [.ref b]) S ms_L_draw qw972 (l_drawS l D A (u ++ sbW D b v1 m f k27) (hQ.app hku)) hK hP hD (hE.kept hS.2.1) rfl rfl hl.1 (Nat.le_of_ble_eq_true rfl) rfl rfl ⟨(Nat.le_of_ble_eq_true rfl), (Nat.le_of_ble_eq_true rfl)⟩ ⟨(by show 2 + m / 16 + 0 ≤ 160; omega), (by show 30 + 2 * m + 0 ≤ 4000; omega)⟩ dL_setup_146) hS (fun _ h => h) rfl (fun w28 H locs hq hP hD hz hk hS => ?_)
  obtain ⟨hQ1, hsm⟩ := hq
  clear hz hk
  obtain ⟨u, rfl, hsu⟩ := w_sameK hsm hku
  clear hsm
  have hku : k < u.length := by rw [hsu.1]; exact hku
  have hQ := hQ1.left hku
  have hsk := hsk.trans hsu
  clear hQ1 hsu
  obtain ⟨d28, hd28, ed28⟩ := drw_at (dnx y)
  rw [ed28]
  clear ed28
  generalize dnx y = y at hQ
  refine lv_iconst (v := 3) S.1 S.2.1 dL_setup_149 (by decide) ?_
  refine lv_irem S.1 S.2.1 dL_setup_150 (by decide) ?_
  rw [show nI d28 - nI d28 / 3 * 3 = nI (d28 % 3) from pk_rem (d := 3) (by omega) (by decide) (by decide)]
  obtain ⟨m9, hm9⟩ : ∃ z, z = d28 % 3 := ⟨_, rfl⟩
  rw [← hm9]
  have bm9 : m9 ≤ 3 := by omega
  clear hm9
  obtain ⟨qm9, hqm9⟩ : ∃ w, w = numL (nI m9) := ⟨_, rfl⟩
  have e9 : decL (nI m9) = qm9.map nI := by rw [hqm9]; exact decl_n _ (by omega)
  have e8 : qm9.length ≤ 3 := by rw [hqm9]; exact (num_ok100 _ (by omega)).2.1
  refine bw_in (x := nI m9) (M := 1000) (cb := 2) (sb := 30) S qw976 hK hP hD hE hS hA hf hn h16 hm (Nat.le_of_ble_eq_true rfl) hL hG (by rw [e9, List.length_map]; omega) hl.1 (Nat.le_of_ble_eq_true rfl) ⟨(Nat.le_of_ble_eq_true rfl), (Nat.le_of_ble_eq_true rfl)⟩ ⟨(by show 2 + 1000 / 16 ≤ 160; omega), (by show 30 + 2 * 1000 ≤ 4000; omega)⟩ dL_setup_151 (fun H locs v1 f k29 m e1 hL hf hn h16 hm hP hD hS => ?_)
  rw [e9, List.length_map] at e1
  have hb : k29 ≤ 83 + 3 := by skip; omega
  clear e1
  have hL : BC f k29 (((((((((((((((((((([115, 101, 97, 115, 111, 110, 32] ++ qm0) ++ [32, 115, 104, 97, 114, 101, 115, 32]) ++ qm1) ++ [32]) ++ qm2) ++ [32]) ++ qm3) ++ [32]) ++ qm4) ++ [32, 108, 101, 115, 115, 32]) ++ qm5) ++ [32, 108, 101, 97, 115, 116, 32]) ++ qm6) ++ [32, 99, 97, 114, 114, 121, 32]) ++ qm7) ++ [32, 97, 112, 112, 101, 97, 108, 32]) ++ qm8) ++ [32, 114, 101, 99, 111, 117, 110, 116, 115, 32]) ++ qm9).map nI) := by
    rw [List.map_append, ← e9]
    exact hL
  clear e9
  refine va_ldcS (own := RL) (q := D.2 200 37) S.1 S.2.1 S.2.2.2.1 (ldS_38 hE) dL_setup_154 ?_
  refine bw_lit (i := 37) (M := 1000) (cb := 2) (sb := 30) S qw1002 hK hP hD hE hS hA hf hn h16 hm (Nat.le_of_ble_eq_true rfl) hL (by decide) rfl lit_asc37 (by decide) (by show 2 * (k29 + 1) ≤ 1000; omega) hl.1 (Nat.le_of_ble_eq_true rfl) ⟨(Nat.le_of_ble_eq_true rfl), (Nat.le_of_ble_eq_true rfl)⟩ ⟨(by show 2 + 1000 / 16 ≤ 160; omega), (by show 30 + 2 * 1000 ≤ 4000; omega)⟩ dL_setup_156 (fun H locs v1 f k30 m e1 hL hf hn h16 hm hP hD hS => ?_)
  have hb : k30 ≤ 86 + 1 := by have e2 : k30 = k29 + 1 := e1; omega
  clear e1
  have hL : BC f k30 ((((((((((((((((((((([115, 101, 97, 115, 111, 110, 32] ++ qm0) ++ [32, 115, 104, 97, 114, 101, 115, 32]) ++ qm1) ++ [32]) ++ qm2) ++ [32]) ++ qm3) ++ [32]) ++ qm4) ++ [32, 108, 101, 115, 115, 32]) ++ qm5) ++ [32, 108, 101, 97, 115, 116, 32]) ++ qm6) ++ [32, 99, 97, 114, 114, 121, 32]) ++ qm7) ++ [32, 97, 112, 112, 101, 97, 108, 32]) ++ qm8) ++ [32, 114, 101, 99, 111, 117, 110, 116, 115, 32]) ++ qm9) ++ [59]).map nI) := by
    rw [List.map_append, ← lsN37]
    exact hL
  refine lv_astore_n (lv' := [(1, .ref b), (0, .ref qa)]) S.1 S.2.1 dL_setup_159 rfl hl (by decide) rfl (fun ls hl => ?_)
  refine lv_aload_n S.1 S.2.1 dL_setup_160 rfl (lv_at hl 1 rfl) ?_
  refine x_aftQ (st1 := [.int (drw (dnx y))]) (x_St0 (As := [.ref qa]) (rest := []) S ms_L_draw qw972 (l_drawS l D A (u ++ sbW D b v1 m f k30) (hQ.app hku)) hK hP hD (hE.kept hS.2.1) rfl rfl hl.1 (Nat.le_of_ble_eq_true rfl) rfl rfl ⟨(Nat.le_of_ble_eq_true rfl), (Nat.le_of_ble_eq_true rfl)⟩ ⟨(by show 2 + m / 16 + 0 ≤ 160; omega), (by show 30 + 2 * m + 0 ≤ 4000; omega)⟩ dL_setup_161) hS (fun _ h => h) rfl (fun w31 H locs hq hP hD hz hk hS => ?_)
  obtain ⟨hQ1, hsm⟩ := hq
  clear hz hk
  obtain ⟨u, rfl, hsu⟩ := w_sameK hsm hku
  clear hsm
  have hku : k < u.length := by rw [hsu.1]; exact hku
  have hQ := hQ1.left hku
  have hsk := hsk.trans hsu
  clear hQ1 hsu
  obtain ⟨d31, hd31, ed31⟩ := drw_at (dnx y)
  rw [ed31]
  clear ed31
  generalize dnx y = y at hQ
  refine lv_iconst (v := 4) S.1 S.2.1 dL_setup_164 (by decide) ?_
  refine lv_irem S.1 S.2.1 dL_setup_165 (by decide) ?_
  rw [show nI d31 - nI d31 / 4 * 4 = nI (d31 % 4) from pk_rem (d := 4) (by omega) (by decide) (by decide)]
  obtain ⟨B, hB⟩ : ∃ z, z = d31 % 4 := ⟨_, rfl⟩
  rw [← hB]
  have bB : B ≤ 3 := by omega
  clear hB
  refine lv_istore_n (lv' := [(2, .int (nI B)), (1, .ref b), (0, .ref qa)]) S.1 S.2.1 dL_setup_166 rfl hl (by decide) rfl (fun ls hl => ?_)
  refine lv_iconst (v := 0) S.1 S.2.1 dL_setup_167 (by decide) ?_
  refine lv_istore_n (lv' := [(3, .int 0), (2, .int (nI B)), (1, .ref b), (0, .ref qa)]) S.1 S.2.1 dL_setup_168 rfl hl (by decide) rfl (fun ls hl => ?_)
  have hms : NB (mL [m0, m1, m2, m3, m4, m5, m6, m7, m8, m9]) := ⟨bm0, ⟨bm1, bm2, bm3, bm4⟩, bm5, bm6, bm7, bm8, bm9⟩
  obtain ⟨W, hW⟩ : ∃ W : Nat → List Nat, W = fun i => [qm0, qm1, qm2, qm3, qm4, qm5, qm6, qm7, qm8, qm9].getD i [] := ⟨_, rfl⟩
  have g0 : W 0 = qm0 := by rw [hW]; rfl
  have g1 : W 1 = qm1 := by rw [hW]; rfl
  have g2 : W 2 = qm2 := by rw [hW]; rfl
  have g3 : W 3 = qm3 := by rw [hW]; rfl
  have g4 : W 4 = qm4 := by rw [hW]; rfl
  have g5 : W 5 = qm5 := by rw [hW]; rfl
  have g6 : W 6 = qm6 := by rw [hW]; rfl
  have g7 : W 7 = qm7 := by rw [hW]; rfl
  have g8 : W 8 = qm8 := by rw [hW]; rfl
  have g9 : W 9 = qm9 := by rw [hW]; rfl
  clear hW
  have hX : (((((((((((((((((((([115, 101, 97, 115, 111, 110, 32] ++ qm0) ++ [32, 115, 104, 97, 114, 101, 115, 32]) ++ qm1) ++ [32]) ++ qm2) ++ [32]) ++ qm3) ++ [32]) ++ qm4) ++ [32, 108, 101, 115, 115, 32]) ++ qm5) ++ [32, 108, 101, 97, 115, 116, 32]) ++ qm6) ++ [32, 99, 97, 114, 114, 121, 32]) ++ qm7) ++ [32, 97, 112, 112, 101, 97, 108, 32]) ++ qm8) ++ [32, 114, 101, 99, 111, 117, 110, 116, 115, 32]) ++ qm9) ++ [59]) = NLx (nuF [m0, m1, m2, m3, m4, m5, m6, m7, m8, m9]) ++ flat (boL bnF) 0 := by
    have e := nls_eq W
    have e2 := NLx_eq (nuF [m0, m1, m2, m3, m4, m5, m6, m7, m8, m9]) []
    have e3 : nlL W [] = nlL (fun i => numL (nuF [m0, m1, m2, m3, m4, m5, m6, m7, m8, m9] i)) [] := by
      unfold nlL
      rw [g0, g1, g2, g3, g4, g5, g6, g7, g8, g9, hqm0, hqm1, hqm2, hqm3, hqm4, hqm5, hqm6, hqm7, hqm8, hqm9]
      rfl
    rw [g0, g1, g2, g3, g4, g5, g6, g7, g8, g9, e3, ← e2] at e
    exact e
  exact se_bo S hK hE hA hG hC hr hlk (ms := [m0, m1, m2, m3, m4, m5, m6, m7, m8, m9]) hms bB B (j := 0) hP hD hS hQ hku hsk hf hn h16 hm hL hX (by omega) (lv_sub hl [0, 1, 2, 3] rfl) (Nat.zero_add B)
