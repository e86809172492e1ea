/-! THE LAW: foretold, the days -/
section FOD
variable {pg : Program} {l : Launch} {en : Env} {s : State} {mi : MethodId} {ar : Array Value} {below : List Frame} {me : Method} {co : Code} {Z : State → Prop} {H : Heap} {locs : List Loc} {ls : Array Slot} {D : va_G} {A : Nat → Prop} {α : Nat → Nat} {u : va_W} {v v0 : VT} {N N0 P B Q qa : Nat} {y : Int32} {wa wv wn n0 n1 n2 b d : Nat} {wf : Nat → Int32}
set_option maxHeartbeats 4000000 in
set_option maxRecDepth 100000 in
theorem fo_st (S : CallFix pg mi co cL_foretold 19 s ar lw_all RL) (hK : va_K D vwCl (gTys D) s) (hE : EV D A s s.heap) (hA : ∀ q, s.heap.size ≤ q → A q) (hG : DGf A s s.heap) (hC : CN s) (hr : me.sig.returnType = some .boolean) (hlk : me.locks = false) (hEnd : LEnd pg l en ({ frames := 13, cells := 10600, slots := 420000, locals := 400 } : Room) s mi ar below me co (foQ D A α v0 N0 P B Q qa) A Z 10600 420000) (hWL : BC wf wn (tolL v0 n0 n1 n2 P B)) (hwn : wn ≤ 10476) (hTX0 : TXT v0 n0 n1 n2) (hN0 : N0 ≤ 500) (hX0 : EX P v0) (hP : va_P D vwCl u H) (hD : va_D A u) (hS : va_S A s.heap H locs) (hB : OB D α u v) (hQ : QW D 234 u qa y) (hR : RA N P B Q v) (hX : EX P v) (hW : Tx (va_A u H.size) s H wa wv wn wf) (h21 : v.2.1 = v0.2.1) (hd1 : 1 ≤ d) (hd2 : d ≤ 30) (hpd : v.1 = (n_pass v0 (nI d)).1) (hH : HL v [v0.1]) (hN : N ≤ N0 + 70) (hl : lv_has ls 19 [(12, .int (nI d)), (2, .ref wa), (1, .ref qa), (0, .ref (α 0))]) : W pg l en ({ frames := 13, cells := 10600, slots := 420000, locals := 400 } : Room) s mi ar below me co H locs 4200 166400 Z (F0 mi 637 ls [.int 1]) := by
  refine lv_if_eq (tgt := 644) S.1 S.2.1 dL_foretold_637 (by decide) (fun z9 => absurd z9 (by decide)) (fun _ => ?_)
  refine lv_iconst (v := 1) S.1 S.2.1 dL_foretold_640 (by decide) ?_
  refine lv_goto (tgt := 645) S.1 S.2.1 dL_foretold_641 (by decide) ?_
  refine lv_istore (lv' := [(9, .int 1), (12, .int (nI d)), (2, .ref wa), (1, .ref qa), (0, .ref (α 0))]) S.1 S.2.1 dL_foretold_645 hl (by decide) rfl (fun ls hl => ?_)
  refine W.more (cells' := 4200) (slots' := 166400) ?_ (by decide) (by decide)
  exact fo_ff S hK hE hA hG hC hr hlk hEnd hWL hwn hTX0 hN0 hX0 hP hD hS hB hQ hR hX hW h21 hd1 hd2 hpd hH hN (lv_sub hl [1, 0, 2, 3, 4] rfl)
set_option maxHeartbeats 4000000 in
set_option maxRecDepth 100000 in
theorem fo_fe (S : CallFix pg mi co cL_foretold 19 s ar lw_all RL) (hK : va_K D vwCl (gTys D) s) (hE : EV D A s s.heap) (hA : ∀ q, s.heap.size ≤ q → A q) (hG : DGf A s s.heap) (hC : CN s) (hr : me.sig.returnType = some .boolean) (hlk : me.locks = false) (hEnd : LEnd pg l en ({ frames := 13, cells := 10600, slots := 420000, locals := 400 } : Room) s mi ar below me co (foQ D A α v0 N0 P B Q qa) A Z 10600 420000) (hWL : BC wf wn (tolL v0 n0 n1 n2 P B)) (hwn : wn ≤ 10476) (hTX0 : TXT v0 n0 n1 n2) (hN0 : N0 ≤ 500) (hX0 : EX P v0) {bb : Int32} (hP : va_P D vwCl u H) (hD : va_D A u) (hS : va_S A s.heap H locs) (hB : OB D α u v) (hQ : QW D 234 u qa y) (hR : RA N P B Q v) (hX : EX P v) (hW : Tx (va_A u H.size) s H wa wv wn wf) (h21 : v.2.1 = v0.2.1) (h1 : v.1 = v0.1) (hd1a : 1 ≤ d) (hd2 : d ≤ 30) (hN : N ≤ N0 + 69) (hl : lv_has ls 19 [(16, .int bb), (13, .int bb), (12, .int (nI d)), (9, .int 1), (2, .ref wa), (1, .ref qa), (0, .ref (α 0))]) : W pg l en ({ frames := 13, cells := 10600, slots := 420000, locals := 400 } : Room) s mi ar below me co H locs 2100 83200 Z (F0 mi 589 ls []) := by
  have hTX : TXT v n0 n1 n2 := TXT_same hTX0 h1 h21
  refine lv_iload S.1 S.2.1 dL_foretold_589 (lv_at hl 3 rfl) ?_
  refine lv_if_eq (tgt := 616) S.1 S.2.1 dL_foretold_591 (by decide) (fun z9 => absurd z9 (by decide)) (fun _ => ?_)
  refine lv_iload S.1 S.2.1 dL_foretold_594 (lv_at hl 1 rfl) ?_
  refine lv_iload S.1 S.2.1 dL_foretold_596 (lv_at hl 0 rfl) ?_
  refine lv_icmp_ne (tgt := 616) S.1 S.2.1 dL_foretold_598 (by decide) (fun z9 => absurd (rfl) z9) (fun _ => ?_)
  refine lv_aload_n S.1 S.2.1 dL_foretold_601 rfl (lv_at hl 6 rfl) ?_
  refine x_ownG (x_St (As := [.ref (α 0)]) (rest := []) S ms_L_told qw1398 (l_told l D (va_A u H.size) u α hR (by omega) hB (by have h9 := hQ.len; omega) (nH := H.size) (fun q hq => .inr hq) hTX (val_2 hR).1 (val_2 hR).2.2 (val_3 hR).1 (val_3 hR).2) (stX_and stX_sz (stX_and stX_cn stX_dg)) hK hP (wd_own hD) (hE.own hS hD hA) ⟨Nat.le_refl _, hC, hG.own hS hD hA⟩ rfl rfl hl.1 (Nat.le_of_ble_eq_true rfl) rfl rfl ⟨(Nat.le_of_ble_eq_true rfl), (Nat.le_of_ble_eq_true rfl)⟩ ⟨(Nat.le_of_ble_eq_true rfl), (Nat.le_of_ble_eq_true rfl)⟩ dL_foretold_602) hS hD hA (fun V H locs hq hS hown => ?_)
  obtain ⟨a8, x8, k8, f8, u1, rfl, hL8, hn8, hu1, hB, hsm, hP, hD1⟩ := hq
  have hT8 := st_own S.2.2.2.2 hK hP hD1
  have hP := wp_left hP
  obtain ⟨hD, hkp⟩ := hown u1 (wd_left hD1)
  clear hown hD1 hu1
  have hW := hkp.2 _ _ _ _ hW
  clear hkp
  have hQ := hQ.same hsm (Nat.le_refl _)
  clear hsm
  obtain ⟨u, hue⟩ : ∃ u, u = u1 := ⟨_, rfl⟩
  rw [← hue] at hP hD hB hQ hW hT8
  clear hue
  rw [tolL_same h1 h21] at hL8
  obtain ⟨ek, he⟩ := hL8.eq hWL
  rw [ek] at hT8 he
  refine lv_aload_n S.1 S.2.1 dL_foretold_605 rfl (lv_at hl 4 rfl) ?_
  refine x_aftR (st1 := [.int 1]) (x_V (As := [.ref wa]) (rest := []) S mi_J0_equals_9ea2d qw1589 (x_J0_equals_9ea2d l D (va_A u H.size) u a8 _ wa _ wn _ _ (by omega) he) (stX_and stX_tx stX_tx) hK hP (wd_own hD) (hE.own hS hD hA) ⟨hT8, hW⟩ hT8.recv rfl rfl hl.1 (Nat.le_of_ble_eq_true rfl) rfl rfl ⟨(Nat.le_of_ble_eq_true rfl), (Nat.le_of_ble_eq_true rfl)⟩ ⟨(Nat.le_of_ble_eq_true rfl), (Nat.le_of_ble_eq_true rfl)⟩ dL_foretold_606) hS (wa_sub hD (fun q hq => hA q (Nat.le_trans hS.1 hq))) rfl (fun locs hS => ?_)
  clear he hT8 hL8
  refine lv_if_eq (tgt := 616) S.1 S.2.1 dL_foretold_609 (by decide) (fun z9 => absurd z9 (by decide)) (fun _ => ?_)
  refine lv_iconst (v := 1) S.1 S.2.1 dL_foretold_612 (by decide) ?_
  refine lv_goto (tgt := 617) S.1 S.2.1 dL_foretold_613 (by decide) ?_
  refine lv_istore (lv' := [(9, .int 1), (16, .int bb), (13, .int bb), (12, .int (nI d)), (2, .ref wa), (1, .ref qa), (0, .ref (α 0))]) S.1 S.2.1 dL_foretold_617 hl (by decide) rfl (fun ls hl => ?_)
  refine lv_iload S.1 S.2.1 dL_foretold_619 (lv_at hl 0 rfl) ?_
  refine lv_if_eq (tgt := 644) S.1 S.2.1 dL_foretold_621 (by decide) (fun z9 => absurd z9 (by decide)) (fun _ => ?_)
  refine lv_aload_n S.1 S.2.1 dL_foretold_624 rfl (lv_at hl 6 rfl) ?_
  refine lv_iload S.1 S.2.1 dL_foretold_625 (lv_at hl 3 rfl) ?_
  refine x_ownQ (st1 := [.int (a_pass v (nI d))]) (x_V0 (As := [.int (nI d)]) (rest := []) S mi_X11_pass qw1283 (k_pass l D (va_A u H.size) u α hR (by omega) (nI d) hB) hK hP (wd_own hD) (hE.own hS hD hA) (hB.recv hK hP) rfl rfl hl.1 (Nat.le_of_ble_eq_true rfl) rfl rfl ⟨(Nat.le_of_ble_eq_true rfl), (Nat.le_of_ble_eq_true rfl)⟩ ⟨(Nat.le_of_ble_eq_true rfl), (Nat.le_of_ble_eq_true rfl)⟩ dL_foretold_627) hS hD hA rfl (fun u H locs hq hP hD hS hkp => ?_)
  obtain ⟨hB, hsm⟩ := hq
  have hW := hkp.2 _ _ _ _ hW
  clear hkp
  have hQ := hQ.same hsm (Nat.le_refl _)
  clear hsm
  have sp1 := sp_pass hR (by omega) hX (nI d)
  obtain ⟨q1, -⟩ := pass_nn hR (by omega) hX (d := d) (by omega) (by omega)
  have hH1 := step_hl sp1 q1 (HL.nil hR) (by decide)
  rw [h1] at hH1
  have hpd := pass_same h1 h21 (d := d) (by omega) (by omega)
  obtain ⟨hR2, hX2, e21, -⟩ := sp1
  have h212 := e21.trans h21
  generalize n_pass v (nI d) = v2 at hB hR2 hX2 h212 hH1 hpd
  generalize a_pass v (nI d) = x2 at q1 ⊢
  refine lv_if_lt (tgt := 644) S.1 S.2.1 dL_foretold_630 (by decide) (fun z9 => absurd z9 (q1)) (fun _ => ?_)
  refine lv_aload_n S.1 S.2.1 dL_foretold_633 rfl (lv_at hl 6 rfl) ?_
  refine x_ownQD (st1 := [.int 1]) (x_StD0 (As := [.ref (α 0)]) (rest := []) S ms_L_stands qw1302 (l_stands l D (va_A u H.size) u α hR2 (by omega) (stf_ok hR2 (by omega) hX2) hB) hK hP (wd_own hD) (hE.own hS hD hA) rfl rfl hl.1 (Nat.le_of_ble_eq_true rfl) rfl rfl ⟨(Nat.le_of_ble_eq_true rfl), (Nat.le_of_ble_eq_true rfl)⟩ ⟨(Nat.le_of_ble_eq_true rfl), (Nat.le_of_ble_eq_true rfl)⟩ dL_foretold_634) hS hD hA rfl (fun d1 u H locs hd1 hq hP hD hS hkp => ?_)
  obtain ⟨hB, hsm⟩ := hq
  have hW := hkp.drawn d1 hW
  have hQ := hQ.same hsm (Nat.le_refl _)
  refine W.more (cells' := 4200) (slots' := 166400) ?_ (by decide) (by decide)
  exact fo_st (S.drawn d1) (va_K.moved (Vm.Alike.refl s.vm) hK) (EV.same (s := s) hE rfl) hA (stX_dg _ _ _ (Vm.Alike.refl s.vm) hG) (stX_cn _ _ H (Vm.Alike.refl s.vm) hC) hr hlk (hEnd.drawn hd1) hWL hwn hTX0 hN0 hX0 hP hD hS hB hQ hR2 hX2 hW h212 hd1a hd2 hpd hH1 (by omega) (lv_sub hl [3, 4, 5, 6] rfl)
set_option maxHeartbeats 4000000 in
set_option maxRecDepth 100000 in
theorem fd_m (S : CallFix pg mi co cL_foretold 19 s ar lw_all RL) (hK : va_K D vwCl (gTys D) s) (hE : EV D A s s.heap) (hA : ∀ q, s.heap.size ≤ q → A q) (hG : DGf A s s.heap) (hC : CN s) (hr : me.sig.returnType = some .boolean) (hlk : me.locks = false) (hEnd : LEnd pg l en ({ frames := 13, cells := 10600, slots := 420000, locals := 400 } : Room) s mi ar below me co (foQ D A α v0 N0 P B Q qa) A Z 10600 420000) (hWL : BC wf wn (tolL v0 n0 n1 n2 P B)) (hwn : wn ≤ 10476) (hTX0 : TXT v0 n0 n1 n2) (hN0 : N0 ≤ 500) (hX0 : EX P v0) (hR0 : RA N0 P B Q v0) {k : Nat} (hP : va_P D vwCl u H) (hD : va_D A u) (hS : va_S A s.heap H locs) (hB : OB D α u v) (hQ : QW D 234 u qa y) (hR : RA N P B Q v) (hX : EX P v) (hW : Tx (va_A u H.size) s H wa wv wn wf) (h21 : v.2.1 = v0.2.1) (hd1 : 1 ≤ d) (hd2 : d ≤ 30) (hkd : k ≤ d) (hits : a_value v 15 - a_needIn v 0 = sur v0 k) (hneed : k = d → a_needIn v 0 = a_needIn v0 (nI d)) (hst : (k = 0 ∧ v.1 = v0.1) ∨ (0 < k ∧ HL v [v0.1])) (hN : N ≤ N0 + 7 + 2 * k) (kk : ∀ {u : va_W} {v : VT} {N : Nat} {H : Heap} {locs : List Loc} {ls : Array Slot}, va_P D vwCl u H → va_D A u → va_S A s.heap H locs → OB D α u v → QW D 234 u qa y → RA N P B Q v → EX P v → Tx (va_A u H.size) s H wa wv wn wf → v.2.1 = v0.2.1 → v.1 = v0.1 → N ≤ N0 + 8 + 2 * k → lv_has ls 19 [(17, .int (nI (k + 1))), (16, .int ((prS v0 (k + 1)).2)), (15, .int ((prS v0 (k + 1)).1)), (14, .int (a_needIn v0 (nI d))), (13, .int ((prS v0 (d + 1)).2)), (12, .int (nI d)), (9, .int 1), (2, .ref wa), (1, .ref qa), (0, .ref (α 0))] → W pg l en ({ frames := 13, cells := 10600, slots := 420000, locals := 400 } : Room) s mi ar below me co H locs 2100 83200 Z (F0 mi 470 ls [])) (hl : lv_has ls 19 [(17, .int (nI k)), (16, .int ((prS v0 k).2)), (15, .int ((prS v0 k).1)), (14, .int (a_needIn v0 (nI d))), (13, .int ((prS v0 (d + 1)).2)), (12, .int (nI d)), (9, .int 1), (2, .ref wa), (1, .ref qa), (0, .ref (α 0))]) : W pg l en ({ frames := 13, cells := 10600, slots := 420000, locals := 400 } : Room) s mi ar below me co H locs 2100 83200 Z (F0 mi 503 ls []) := by
  obtain ⟨hm1, hm2⟩ := prS_s hR0 (by omega) k
  refine lv_aload_n S.1 S.2.1 dL_foretold_503 rfl (lv_at hl 9 rfl) ?_
  refine lv_bipush (v := 15) S.1 S.2.1 dL_foretold_504 (by decide) ?_
  refine x_ownQ (st1 := [.int (a_value v (15 : Int32))]) (x_V0 (As := [.int 15]) (rest := []) S mi_X11_value qw725 (k_value l D (va_A u H.size) u α hR (by omega) (15 : Int32) hB) hK hP (wd_own hD) (hE.own hS hD hA) (hB.recv hK hP) rfl rfl hl.1 (Nat.le_of_ble_eq_true rfl) rfl rfl ⟨(Nat.le_of_ble_eq_true rfl), (Nat.le_of_ble_eq_true rfl)⟩ ⟨(Nat.le_of_ble_eq_true rfl), (Nat.le_of_ble_eq_true rfl)⟩ dL_foretold_506) hS hD hA rfl (fun u H locs hq hP hD hS hkp => ?_)
  obtain ⟨hB, hsm⟩ := hq
  have hW := hkp.2 _ _ _ _ hW
  clear hkp
  have hQ := hQ.same hsm (Nat.le_refl _)
  clear hsm
  refine lv_aload_n S.1 S.2.1 dL_foretold_509 rfl (lv_at hl 9 rfl) ?_
  refine lv_iconst (v := 0) S.1 S.2.1 dL_foretold_510 (by decide) ?_
  refine x_aftR (st1 := [.int (a_needIn v (0 : Int32)), .int (a_value v (15 : Int32))]) (x_V0 (As := [.int 0]) (rest := [.int (a_value v (15 : Int32))]) S mi_X11_needIn qw1334 (k_needIn l D (va_A u H.size) u α (0 : Int32) hB) hK hP (wd_own hD) (hE.own hS hD hA) (hB.recv hK hP) rfl rfl hl.1 (Nat.le_of_ble_eq_true rfl) rfl rfl ⟨(Nat.le_of_ble_eq_true rfl), (Nat.le_of_ble_eq_true rfl)⟩ ⟨(Nat.le_of_ble_eq_true rfl), (Nat.le_of_ble_eq_true rfl)⟩ dL_foretold_511) hS (wa_sub hD (fun q hq => hA q (Nat.le_trans hS.1 hq))) rfl (fun locs hS => ?_)
  refine lv_isub S.1 S.2.1 dL_foretold_514 ?_
  rw [hits]
  refine lv_istore (lv' := [(18, .int (sur v0 k)), (17, .int (nI k)), (16, .int ((prS v0 k).2)), (15, .int ((prS v0 k).1)), (14, .int (a_needIn v0 (nI d))), (13, .int ((prS v0 (d + 1)).2)), (12, .int (nI d)), (9, .int 1), (2, .ref wa), (1, .ref qa), (0, .ref (α 0))]) S.1 S.2.1 dL_foretold_515 hl (by decide) rfl (fun ls hl => ?_)
  refine lv_iload S.1 S.2.1 dL_foretold_517 (lv_at hl 0 rfl) ?_
  refine lv_iload S.1 S.2.1 dL_foretold_519 (lv_at hl 3 rfl) ?_
  have J : ∀ (locs : List Loc) (ls : Array Slot), va_S A s.heap H locs → lv_has ls 19 [(18, .int (sur v0 k)), (17, .int (nI k)), (16, .int ((prS v0 k).2)), (15, .int ((prS v0 k).1)), (14, .int (a_needIn v0 (nI d))), (13, .int ((prS v0 (d + 1)).2)), (12, .int (nI d)), (9, .int 1), (2, .ref wa), (1, .ref qa), (0, .ref (α 0))] → W pg l en ({ frames := 13, cells := 10600, slots := 420000, locals := 400 } : Room) s mi ar below me co H locs (2100 + 0 + 0) (83200 + 0 + 0) Z (F0 mi 531 ls [.int (prS v0 (k + 1)).2]) := by
    intro locs ls hS hl
    refine lv_istore (lv' := [(16, .int ((prS v0 (k + 1)).2)), (18, .int (sur v0 k)), (17, .int (nI k)), (15, .int ((prS v0 k).1)), (14, .int (a_needIn v0 (nI d))), (13, .int ((prS v0 (d + 1)).2)), (12, .int (nI d)), (9, .int 1), (2, .ref wa), (1, .ref qa), (0, .ref (α 0))]) S.1 S.2.1 dL_foretold_531 hl (by decide) rfl (fun ls hl => ?_)
    refine lv_iload S.1 S.2.1 dL_foretold_533 (lv_at hl 3 rfl) ?_
    refine lv_iload S.1 S.2.1 dL_foretold_535 (lv_at hl 1 rfl) ?_
    refine va_mmax S.1 S.2.1 (S.2.2.1.trans hl.1.symm) S.2.2.2.1 (S.2.2.2.2 _ qw1360) (S.2.2.2.2 _ qw45) (S.2.2.2.2 _ qw4) (S.2.2.2.2 _ qw46) (Nat.le_of_ble_eq_true rfl) (Nat.le_of_ble_eq_true rfl) (Nat.le_of_ble_eq_true rfl) (Nat.le_of_ble_eq_true rfl) dL_foretold_537 ?_
    rw [show (if ((prS v0 k).1) < (sur v0 k) then (sur v0 k) else ((prS v0 k).1)) = (mx ((prS v0 k).1) (sur v0 k)) from rfl]
    rw [show mx (prS v0 k).1 (sur v0 k) = (prS v0 (k + 1)).1 from hm1]
    refine lv_istore (lv' := [(15, .int ((prS v0 (k + 1)).1)), (16, .int ((prS v0 (k + 1)).2)), (18, .int (sur v0 k)), (17, .int (nI k)), (14, .int (a_needIn v0 (nI d))), (13, .int ((prS v0 (d + 1)).2)), (12, .int (nI d)), (9, .int 1), (2, .ref wa), (1, .ref qa), (0, .ref (α 0))]) S.1 S.2.1 dL_foretold_540 hl (by decide) rfl (fun ls hl => ?_)
    refine lv_iload S.1 S.2.1 dL_foretold_542 (lv_at hl 7 rfl) ?_
    refine lv_if_eq (tgt := 580) S.1 S.2.1 dL_foretold_544 (by decide) (fun z9 => absurd z9 (by decide)) (fun _ => ?_)
    refine lv_iload S.1 S.2.1 dL_foretold_547 (lv_at hl 3 rfl) ?_
    refine lv_iload S.1 S.2.1 dL_foretold_549 (lv_at hl 6 rfl) ?_
    have J576 : ∀ {u : va_W} {v : VT} {N : Nat} {H : Heap} {locs : List Loc} {ls : Array Slot} (hP : va_P D vwCl u H) (hD : va_D A u) (hS : va_S A s.heap H locs) (hB : OB D α u v) (hQ : QW D 234 u qa y) (hR : RA N P B Q v) (hX : EX P v) (hW : Tx (va_A u H.size) s H wa wv wn wf) (h21 : v.2.1 = v0.2.1) (h1 : v.1 = v0.1) (hN : N ≤ N0 + 8 + 2 * k) (hl : lv_has ls 19 [(15, .int ((prS v0 (k + 1)).1)), (16, .int ((prS v0 (k + 1)).2)), (18, .int (sur v0 k)), (17, .int (nI k)), (14, .int (a_needIn v0 (nI d))), (13, .int ((prS v0 (d + 1)).2)), (12, .int (nI d)), (9, .int 1), (2, .ref wa), (1, .ref qa), (0, .ref (α 0))]), W pg l en ({ frames := 13, cells := 10600, slots := 420000, locals := 400 } : Room) s mi ar below me co H locs 2100 83200 Z (F0 mi 576 ls []) := by
      intro u v N H locs ls hP hD hS hB hQ hR hX hW h21 h1 hN hl
      refine lv_iconst (v := 1) S.1 S.2.1 dL_foretold_576 (by decide) ?_
      refine lv_goto (tgt := 581) S.1 S.2.1 dL_foretold_577 (by decide) ?_
      refine lv_istore (lv' := [(9, .int 1), (15, .int ((prS v0 (k + 1)).1)), (16, .int ((prS v0 (k + 1)).2)), (18, .int (sur v0 k)), (17, .int (nI k)), (14, .int (a_needIn v0 (nI d))), (13, .int ((prS v0 (d + 1)).2)), (12, .int (nI d)), (2, .ref wa), (1, .ref qa), (0, .ref (α 0))]) S.1 S.2.1 dL_foretold_581 hl (by decide) rfl (fun ls hl => ?_)
      refine lv_iinc (v := (nI (k + 1))) (lv' := [(17, .int (nI (k + 1))), (9, .int 1), (15, .int ((prS v0 (k + 1)).1)), (16, .int ((prS v0 (k + 1)).2)), (18, .int (sur v0 k)), (14, .int (a_needIn v0 (nI d))), (13, .int ((prS v0 (d + 1)).2)), (12, .int (nI d)), (2, .ref wa), (1, .ref qa), (0, .ref (α 0))]) S.1 S.2.1 dL_foretold_583 hl (k := 4) rfl ((nI_succ k).symm) (by decide) rfl (fun ls hl => ?_)
      refine lv_goto (tgt := 470) S.1 S.2.1 dL_foretold_586 (by decide) ?_
      exact kk hP hD hS hB hQ hR hX hW h21 h1 hN (lv_sub hl [0, 3, 2, 5, 6, 7, 1, 8, 9, 10] rfl)
    have J564 : ∀ {u : va_W} {H : Heap} {locs : List Loc} {ls : Array Slot} (hP : va_P D vwCl u H) (hD : va_D A u) (hS : va_S A s.heap H locs) (hB : OB D α u v) (hQ : QW D 234 u qa y) (hW : Tx (va_A u H.size) s H wa wv wn wf) (hl : lv_has ls 19 [(15, .int ((prS v0 (k + 1)).1)), (16, .int ((prS v0 (k + 1)).2)), (18, .int (sur v0 k)), (17, .int (nI k)), (14, .int (a_needIn v0 (nI d))), (13, .int ((prS v0 (d + 1)).2)), (12, .int (nI d)), (9, .int 1), (2, .ref wa), (1, .ref qa), (0, .ref (α 0))]), W pg l en ({ frames := 13, cells := 10600, slots := 420000, locals := 400 } : Room) s mi ar below me co H locs 2100 83200 Z (F0 mi 564 ls []) := by
      intro u H locs ls hP hD hS hB hQ hW hl
      rcases hst with ⟨c0, h1⟩ | ⟨c0, hH⟩
      · refine lv_iload S.1 S.2.1 dL_foretold_564 (lv_at hl 3 rfl) ?_
        refine lv_if_eq (tgt := 576) S.1 S.2.1 dL_foretold_566 (by decide) (fun _ => ?_) (fun z9 => absurd (by rw [c0]; rfl) z9)
        exact J576 hP hD hS hB hQ hR hX hW h21 h1 (by omega) hl
      · refine lv_iload S.1 S.2.1 dL_foretold_564 (lv_at hl 3 rfl) ?_
        refine lv_if_eq (tgt := 576) S.1 S.2.1 dL_foretold_566 (by decide) (fun z9 => absurd z9 (fun z9 => absurd ((nI_eq (a := k) (b := 0) (by omega) (by decide)).mp z9) (by omega))) (fun _ => ?_)
        refine lv_aload_n S.1 S.2.1 dL_foretold_569 rfl (lv_at hl 10 rfl) ?_
        refine x_ownQ (st1 := [.int (a_undo v)]) (x_V0 (As := []) (rest := []) S mi_X11_undo qw1537 (k_undo l D (va_A u H.size) u α hR (by omega)  hB) hK hP (wd_own hD) (hE.own hS hD hA) (hB.recv hK hP) rfl rfl hl.1 (Nat.le_of_ble_eq_true rfl) rfl rfl ⟨(Nat.le_of_ble_eq_true rfl), (Nat.le_of_ble_eq_true rfl)⟩ ⟨(Nat.le_of_ble_eq_true rfl), (Nat.le_of_ble_eq_true rfl)⟩ dL_foretold_570) hS hD hA rfl (fun u H locs hq hP hD hS hkp => ?_)
        obtain ⟨hB, hsm⟩ := hq
        have hW := hkp.2 _ _ _ _ hW
        clear hkp
        have hQ := hQ.same hsm (Nat.le_refl _)
        clear hsm
        obtain ⟨p1, p2, p3, p4, p5⟩ := hH.pop
        have hR1 := q_undo hR (by omega)
        have h211 := p4.trans h21
        have hX1 := ex_same hX0 p2
        generalize n_undo v = v1 at hB hR1 h211 p2 hX1
        generalize a_undo v = x1 at p1 ⊢
        refine lv_if_lt (tgt := 580) S.1 S.2.1 dL_foretold_573 (by decide) (fun z9 => absurd z9 (p1)) (fun _ => ?_)
        refine W.more (cells' := 2100) (slots' := 83200) ?_ (by decide) (by decide)
        exact J576 hP hD hS hB hQ hR1 hX1 hW h211 p2 (by omega) hl
    by_cases ck : k < d
    · refine lv_icmp_lt (tgt := 564) S.1 S.2.1 dL_foretold_551 (by decide) (fun _ => ?_) (fun z9 => absurd (nI_lt ck (by omega)) z9)
      refine W.more (cells' := 2100) (slots' := 83200) ?_ (by decide) (by decide)
      exact J564 hP hD hS hB hQ hW hl
    · refine lv_icmp_lt (tgt := 564) S.1 S.2.1 dL_foretold_551 (by decide) (fun z9 => absurd z9 (fun z9 => ck ((nI_ltI (by omega) (by omega)).mp z9))) (fun _ => ?_)
      refine lv_aload_n S.1 S.2.1 dL_foretold_554 rfl (lv_at hl 10 rfl) ?_
      refine lv_iconst (v := 0) S.1 S.2.1 dL_foretold_555 (by decide) ?_
      refine x_aftR (st1 := [.int (a_needIn v (0 : Int32))]) (x_V0 (As := [.int 0]) (rest := []) S mi_X11_needIn qw1334 (k_needIn l D (va_A u H.size) u α (0 : Int32) hB) hK hP (wd_own hD) (hE.own hS hD hA) (hB.recv hK hP) rfl rfl hl.1 (Nat.le_of_ble_eq_true rfl) rfl rfl ⟨(Nat.le_of_ble_eq_true rfl), (Nat.le_of_ble_eq_true rfl)⟩ ⟨(Nat.le_of_ble_eq_true rfl), (Nat.le_of_ble_eq_true rfl)⟩ dL_foretold_556) hS (wa_sub hD (fun q hq => hA q (Nat.le_trans hS.1 hq))) rfl (fun locs hS => ?_)
      rw [show (a_needIn v (0 : Int32)) = (a_needIn v0 (nI d)) from hneed (by omega)]
      refine lv_iload S.1 S.2.1 dL_foretold_559 (lv_at hl 4 rfl) ?_
      refine lv_icmp_ne (tgt := 580) S.1 S.2.1 dL_foretold_561 (by decide) (fun z9 => absurd (rfl) z9) (fun _ => ?_)
      refine W.more (cells' := 2100) (slots' := 83200) ?_ (by decide) (by decide)
      exact J564 hP hD hS hB hQ hW hl
  refine lv_icmp_le (tgt := 529) S.1 S.2.1 dL_foretold_521 (by decide) (fun c => ?_) (fun c => ?_)
  · refine lv_iload S.1 S.2.1 dL_foretold_529 (lv_at hl 2 rfl) ?_
    rw [if_pos c] at hm2
    rw [hm2]
    exact J _ _ hS hl
  · refine lv_iload S.1 S.2.1 dL_foretold_524 (lv_at hl 1 rfl) ?_
    refine lv_goto (tgt := 531) S.1 S.2.1 dL_foretold_526 (by decide) ?_
    rw [if_neg c] at hm2
    rw [hm2]
    exact J _ _ hS hl
end FOD
