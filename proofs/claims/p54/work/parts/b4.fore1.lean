/-! THE LAW: foretold, its end -/
def foQ (D : va_G) (A : Nat → Prop) (α : Nat → Nat) (v0 : VT) (N0 P B Q qa : Nat) : Array Value → State → Outcome → State → Prop := gG A (fun V _ H1 => ∃ (v1 : VT) (w1 : va_W) (y1 : Int32) (N1 : Nat), V = some (.int 1) ∧ OB D α w1 v1 ∧ RA N1 P B Q v1 ∧ N1 ≤ N0 + 80 ∧ EX P v1 ∧ v1.1 = v0.1 ∧ v1.2.1 = v0.2.1 ∧ QW D 234 w1 qa y1 ∧ va_P D vwCl w1 H1 ∧ va_D A w1)
theorem ex_same {P : Nat} {v u : VT} (h : EX P v) (e : u.1 = v.1) : EX P u := by
  have h2 : EX P ((v.1, u.2) : VT) := h
  rw [← e] at h2
  exact h2
theorem pass_nn {N P B Q : Nat} {v : VT} (hR : RA N P B Q v) (hN : N ≤ 600) (hX : EX P v) {d : Nat} (h1 : 1 ≤ d) (h2 : d ≤ 99) : ¬ a_pass v (nI d) < 0 ∧ (n_pass v (nI d)).2.2.1 = rem_h v := by
  have e : (n_pass v (nI d)).2.2.1 = rem_h v := by rw [pass_new v h1 h2]
  refine ⟨fun z => ?_, e⟩
  rcases (sp_pass hR hN hX (nI d)).2.2.2.2.2 with ⟨-, c⟩ | ⟨c, -⟩
  · rw [c] at e
    obtain ⟨t, x, e1, e2, -, h8, hx, -⟩ := HL.nil hR
    have e3 : v_hsX v = (rem_h v).2.1 := congrArg (fun t : Int32 × Int32 × (Nat → StT) => t.2.1) e
    unfold rem_h at e3
    rw [e1, e2, rem_eq h8 hx] at e3
    have e4 : nI x = nI ((x + 1) % 8) := e3
    have e5 := (nI_eq (by omega) (by omega)).mp e4
    omega
  · exact c z
/-- what a step that can be taken back leaves, and taking it back -/
theorem step_hl {N P B Q : Nat} {v u : VT} {r : Int32} {L : List StT} (h : STX N P B Q v u r) (hr : ¬ r < 0) (hH : HL v L) (hL : L.length ≤ 7) : HL u (v.1 :: L) := by
  rcases h.2.2.2.2.2 with ⟨c, -⟩ | ⟨-, c⟩
  · exact absurd c hr
  · exact hH.push c hL
section FOE
variable {pg : Program} {l : Launch} {en : Env} {s : State} {mi : MethodId} {ar : Array Value} {below : List Frame} {me : Method} {co : Code} {Z : State → Prop} {H : Heap} {locs : List Loc} {ls : Array Slot} {D : va_G} {A : Nat → Prop} {α : Nat → Nat} {u : va_W} {v v0 : VT} {N N0 P B Q qa : Nat} {y : Int32} {wa wv wn n0 n1 n2 b d : Nat} {wf : Nat → Int32}
set_option maxHeartbeats 4000000 in
set_option maxRecDepth 100000 in
theorem fo_end (S : CallFix pg mi co cL_foretold 19 s ar lw_all RL) (hK : va_K D vwCl (gTys D) s) (hE : EV D A s s.heap) (hA : ∀ q, s.heap.size ≤ q → A q) (hG : DGf A s s.heap) (hC : CN s) (hr : me.sig.returnType = some .boolean) (hlk : me.locks = false) (hEnd : LEnd pg l en ({ frames := 13, cells := 10600, slots := 420000, locals := 400 } : Room) s mi ar below me co (foQ D A α v0 N0 P B Q qa) A Z 10600 420000) (hWL : BC wf wn (tolL v0 n0 n1 n2 P B)) (hwn : wn ≤ 10476) (hTX0 : TXT v0 n0 n1 n2) (hN0 : N0 ≤ 500) (hP : va_P D vwCl u H) (hD : va_D A u) (hS : va_S A s.heap H locs) (hB : OB D α u v) (hQ : QW D 234 u qa y) (hR : RA N P B Q v) (hX : EX P v) (hW : Tx (va_A u H.size) s H wa wv wn wf) (h21 : v.2.1 = v0.2.1) (h1 : v.1 = v0.1) (hN : N ≤ N0 + 80) (hl : lv_has ls 19 [(9, .int 1), (2, .ref wa), (1, .ref qa), (0, .ref (α 0))]) : W pg l en ({ frames := 13, cells := 10600, slots := 420000, locals := 400 } : Room) s mi ar below me co H locs 8400 332800 Z (F0 mi 741 ls []) := by
  have hTX : TXT v n0 n1 n2 := TXT_same hTX0 h1 h21
  refine lv_iload S.1 S.2.1 dL_foretold_741 (lv_at hl 0 rfl) ?_
  refine lv_if_eq (tgt := 761) S.1 S.2.1 dL_foretold_743 (by decide) (fun z9 => absurd z9 (by decide)) (fun _ => ?_)
  refine lv_aload_n S.1 S.2.1 dL_foretold_746 rfl (lv_at hl 3 rfl) ?_
  refine x_ownG (x_St (As := [.ref (α 0)]) (rest := []) S ms_L_told qw1398 (l_told l D (va_A u H.size) u α hR (by omega) hB (by have h9 := hQ.len; omega) (nH := H.size) (fun q hq => .inr hq) hTX (val_2 hR).1 (val_2 hR).2.2 (val_3 hR).1 (val_3 hR).2) (stX_and stX_sz (stX_and stX_cn stX_dg)) hK hP (wd_own hD) (hE.own hS hD hA) ⟨Nat.le_refl _, hC, hG.own hS hD hA⟩ rfl rfl hl.1 (Nat.le_of_ble_eq_true rfl) rfl rfl ⟨(Nat.le_of_ble_eq_true rfl), (Nat.le_of_ble_eq_true rfl)⟩ ⟨(Nat.le_of_ble_eq_true rfl), (Nat.le_of_ble_eq_true rfl)⟩ dL_foretold_747) hS hD hA (fun V H locs hq hS hown => ?_)
  obtain ⟨a9, x9, k9, f9, u1, rfl, hL9, hn9, hu1, hB, hsm, hP, hD1⟩ := hq
  have hT9 := st_own S.2.2.2.2 hK hP hD1
  have hP := wp_left hP
  obtain ⟨hD, hkp⟩ := hown u1 (wd_left hD1)
  clear hown hD1 hu1
  have hW := hkp.2 _ _ _ _ hW
  clear hkp
  have hQ := hQ.same hsm (Nat.le_refl _)
  clear hsm
  obtain ⟨u, hue⟩ : ∃ u, u = u1 := ⟨_, rfl⟩
  rw [← hue] at hP hD hB hQ hW hT9
  clear hue
  rw [tolL_same h1 h21] at hL9
  obtain ⟨ek, he⟩ := hL9.eq hWL
  rw [ek] at hT9 he
  refine lv_aload_n S.1 S.2.1 dL_foretold_750 rfl (lv_at hl 1 rfl) ?_
  refine x_aftR (st1 := [.int 1]) (x_V (As := [.ref wa]) (rest := []) S mi_J0_equals_9ea2d qw1589 (x_J0_equals_9ea2d l D (va_A u H.size) u a9 _ wa _ wn _ _ (by omega) he) (stX_and stX_tx stX_tx) hK hP (wd_own hD) (hE.own hS hD hA) ⟨hT9, hW⟩ hT9.recv rfl rfl hl.1 (Nat.le_of_ble_eq_true rfl) rfl rfl ⟨(Nat.le_of_ble_eq_true rfl), (Nat.le_of_ble_eq_true rfl)⟩ ⟨(Nat.le_of_ble_eq_true rfl), (Nat.le_of_ble_eq_true rfl)⟩ dL_foretold_751) hS (wa_sub hD (fun q hq => hA q (Nat.le_trans hS.1 hq))) rfl (fun locs hS => ?_)
  clear he hT9 hL9
  refine lv_if_eq (tgt := 761) S.1 S.2.1 dL_foretold_754 (by decide) (fun z9 => absurd z9 (by decide)) (fun _ => ?_)
  refine lv_iconst (v := 1) S.1 S.2.1 dL_foretold_757 (by decide) ?_
  refine lv_goto (tgt := 762) S.1 S.2.1 dL_foretold_758 (by decide) ?_
  refine W.more (cells' := 10600) (slots' := 420000) ?_ (by decide) (by decide)
  exact W.base (hEnd s.drawn _ _ _ _ _ (Drawn.sameBut.refl s.drawn lw_cs) (x_nret (S.drawn s.drawn) hr hlk hS rfl ⟨v, u, _, N, rfl, hB, hR, hN, hX, h1, h21, hQ, hP, hD⟩ dL_foretold_762))
set_option maxHeartbeats 4000000 in
set_option maxRecDepth 100000 in
theorem fo_ff (S : CallFix pg mi co cL_foretold 19 s ar lw_all RL) (hK : va_K D vwCl (gTys D) s) (hE : EV D A s s.heap) (hA : ∀ q, s.heap.size ≤ q → A q) (hG : DGf A s s.heap) (hC : CN s) (hr : me.sig.returnType = some .boolean) (hlk : me.locks = false) (hEnd : LEnd pg l en ({ frames := 13, cells := 10600, slots := 420000, locals := 400 } : Room) s mi ar below me co (foQ D A α v0 N0 P B Q qa) A Z 10600 420000) (hWL : BC wf wn (tolL v0 n0 n1 n2 P B)) (hwn : wn ≤ 10476) (hTX0 : TXT v0 n0 n1 n2) (hN0 : N0 ≤ 500) (hX0 : EX P v0) (hP : va_P D vwCl u H) (hD : va_D A u) (hS : va_S A s.heap H locs) (hB : OB D α u v) (hQ : QW D 234 u qa y) (hR : RA N P B Q v) (hX : EX P v) (hW : Tx (va_A u H.size) s H wa wv wn wf) (h21 : v.2.1 = v0.2.1) (hd1 : 1 ≤ d) (hd2 : d ≤ 30) (hpd : v.1 = (n_pass v0 (nI d)).1) (hH : HL v [v0.1]) (hN : N ≤ N0 + 70) (hl : lv_has ls 19 [(12, .int (nI d)), (9, .int 1), (2, .ref wa), (1, .ref qa), (0, .ref (α 0))]) : W pg l en ({ frames := 13, cells := 10600, slots := 420000, locals := 400 } : Room) s mi ar below me co H locs 4200 166400 Z (F0 mi 647 ls []) := by
  obtain ⟨t0, t1, t2, hTX⟩ := TXT_of hR (by omega)
  refine lv_aload_n S.1 S.2.1 dL_foretold_647 rfl (lv_at hl 4 rfl) ?_
  refine x_ownG (x_St (As := [.ref (α 0)]) (rest := []) S ms_L_told qw1398 (l_told l D (va_A u H.size) u α hR (by omega) hB (by have h9 := hQ.len; omega) (nH := H.size) (fun q hq => .inr hq) hTX (val_2 hR).1 (val_2 hR).2.2 (val_3 hR).1 (val_3 hR).2) (stX_and stX_sz (stX_and stX_cn stX_dg)) hK hP (wd_own hD) (hE.own hS hD hA) ⟨Nat.le_refl _, hC, hG.own hS hD hA⟩ rfl rfl hl.1 (Nat.le_of_ble_eq_true rfl) rfl rfl ⟨(Nat.le_of_ble_eq_true rfl), (Nat.le_of_ble_eq_true rfl)⟩ ⟨(Nat.le_of_ble_eq_true rfl), (Nat.le_of_ble_eq_true rfl)⟩ dL_foretold_648) hS hD hA (fun V H locs hq hS hown => ?_)
  obtain ⟨az, xz, kz, fz, u1, rfl, hLz, hnz, hu1, hB, hsm, hP, hD1⟩ := hq
  have hTz := st_own S.2.2.2.2 hK hP hD1
  have hP := wp_left hP
  obtain ⟨hD, hkp⟩ := hown u1 (wd_left hD1)
  clear hown hD1 hu1
  have hW := hkp.2 _ _ _ _ hW
  clear hkp
  have hQ := hQ.same hsm (Nat.le_refl _)
  clear hsm
  obtain ⟨u, hue⟩ : ∃ u, u = u1 := ⟨_, rfl⟩
  rw [← hue] at hP hD hB hQ hW hTz
  clear hue
  refine lv_astore (lv' := [(17, .ref az), (12, .int (nI d)), (9, .int 1), (2, .ref wa), (1, .ref qa), (0, .ref (α 0))]) S.1 S.2.1 dL_foretold_651 hl (by decide) rfl (fun ls hl => ?_)
  refine lv_iload S.1 S.2.1 dL_foretold_653 (lv_at hl 2 rfl) ?_
  refine lv_if_eq (tgt := 669) S.1 S.2.1 dL_foretold_655 (by decide) (fun z9 => absurd z9 (by decide)) (fun _ => ?_)
  refine lv_aload_n S.1 S.2.1 dL_foretold_658 rfl (lv_at hl 5 rfl) ?_
  refine x_ownQ (st1 := [.int (a_undo v)]) (x_V0 (As := []) (rest := []) S mi_X11_undo qw1537 (k_undo l D (va_A u H.size) u α hR (by omega)  hB) hK hP (wd_own hD) (hE.own hS hD hA) (hB.recv hK hP) rfl rfl hl.1 (Nat.le_of_ble_eq_true rfl) rfl rfl ⟨(Nat.le_of_ble_eq_true rfl), (Nat.le_of_ble_eq_true rfl)⟩ ⟨(Nat.le_of_ble_eq_true rfl), (Nat.le_of_ble_eq_true rfl)⟩ dL_foretold_659) hS hD hA rfl (fun u H locs hq hP hD hS hkp => ?_)
  obtain ⟨hB, hsm⟩ := hq
  have hW := hkp.2 _ _ _ _ hW
  have hTz := hkp.2 _ _ _ _ hTz
  clear hkp
  have hQ := hQ.same hsm (Nat.le_refl _)
  clear hsm
  obtain ⟨p1, p2, p3, p4, p5⟩ := hH.pop
  have hR1 := q_undo hR (by omega)
  have h211 := p4.trans h21
  have hX1 := ex_same hX0 p2
  generalize n_undo v = v1 at hB hR1 h211 p2 p3 hX1
  generalize a_undo v = x1 at p1 ⊢
  refine lv_if_lt (tgt := 669) S.1 S.2.1 dL_foretold_662 (by decide) (fun z9 => absurd z9 (p1)) (fun _ => ?_)
  refine lv_iconst (v := 1) S.1 S.2.1 dL_foretold_665 (by decide) ?_
  refine lv_goto (tgt := 670) S.1 S.2.1 dL_foretold_666 (by decide) ?_
  refine lv_istore (lv' := [(9, .int 1), (17, .ref az), (12, .int (nI d)), (2, .ref wa), (1, .ref qa), (0, .ref (α 0))]) S.1 S.2.1 dL_foretold_670 hl (by decide) rfl (fun ls hl => ?_)
  refine lv_iload S.1 S.2.1 dL_foretold_672 (lv_at hl 2 rfl) ?_
  refine lv_iconst (v := 1) S.1 S.2.1 dL_foretold_674 (by decide) ?_
  refine lv_icmp_le (tgt := 741) S.1 S.2.1 dL_foretold_675 (by decide) (fun c => ?_) (fun c => ?_)
  · refine W.more (cells' := 8400) (slots' := 332800) ?_ (by decide) (by decide)
    exact fo_end S hK hE hA hG hC hr hlk hEnd hWL hwn hTX0 hN0 hP hD hS hB hQ hR1 hX1 hW h211 p2 (by omega) (lv_sub hl [0, 3, 4, 5] rfl)
  · have c : 2 ≤ d := Decidable.byContradiction (fun z => c (nI_le (show d ≤ 1 by omega) (by decide)))
    have hR := hR1
    refine lv_iload S.1 S.2.1 dL_foretold_678 (lv_at hl 0 rfl) ?_
    refine lv_if_eq (tgt := 741) S.1 S.2.1 dL_foretold_680 (by decide) (fun z9 => absurd z9 (by decide)) (fun _ => ?_)
    refine lv_aload_n S.1 S.2.1 dL_foretold_683 rfl (lv_at hl 5 rfl) ?_
    refine lv_iload S.1 S.2.1 dL_foretold_684 (lv_at hl 2 rfl) ?_
    refine lv_iconst (v := 2) S.1 S.2.1 dL_foretold_686 (by decide) ?_
    refine lv_idiv S.1 S.2.1 dL_foretold_687 (by decide) ?_
    rw [show nI d / 2 = nI (d / 2) from pk_div (d := 2) (by omega) (by decide) (by decide)]
    refine x_ownQ (st1 := [.int (a_pass v1 (nI (d / 2)))]) (x_V0 (As := [.int (nI (d / 2))]) (rest := []) S mi_X11_pass qw1283 (k_pass l D (va_A u H.size) u α hR (by omega) (nI (d / 2)) hB) hK hP (wd_own hD) (hE.own hS hD hA) (hB.recv hK hP) rfl rfl hl.1 (Nat.le_of_ble_eq_true rfl) rfl rfl ⟨(Nat.le_of_ble_eq_true rfl), (Nat.le_of_ble_eq_true rfl)⟩ ⟨(Nat.le_of_ble_eq_true rfl), (Nat.le_of_ble_eq_true rfl)⟩ dL_foretold_688) hS hD hA rfl (fun u H locs hq hP hD hS hkp => ?_)
    obtain ⟨hB, hsm⟩ := hq
    have hW := hkp.2 _ _ _ _ hW
    have hTz := hkp.2 _ _ _ _ hTz
    clear hkp
    have hQ := hQ.same hsm (Nat.le_refl _)
    clear hsm
    have sp1 := sp_pass hR (by omega) hX1 (nI (d / 2))
    obtain ⟨q1, -⟩ := pass_nn hR (by omega) hX1 (d := d / 2) (by omega) (by omega)
    have hH1 := step_hl sp1 q1 p3 (by decide)
    obtain ⟨hR2, hX2, e21, -⟩ := sp1
    have h212 := e21.trans h211
    have ep := pass_two v1 (a := d / 2) (b := d - d / 2) (by omega) (by omega) (by omega)
    generalize n_pass v1 (nI (d / 2)) = v2 at hB hR2 hX2 h212 hH1 ep
    generalize a_pass v1 (nI (d / 2)) = x2 at q1 ⊢
    have hR := hR2
    refine lv_if_lt (tgt := 738) S.1 S.2.1 dL_foretold_691 (by decide) (fun z9 => absurd z9 (q1)) (fun _ => ?_)
    refine lv_aload_n S.1 S.2.1 dL_foretold_694 rfl (lv_at hl 5 rfl) ?_
    refine lv_iload S.1 S.2.1 dL_foretold_695 (lv_at hl 2 rfl) ?_
    refine lv_iload S.1 S.2.1 dL_foretold_697 (lv_at hl 2 rfl) ?_
    refine lv_iconst (v := 2) S.1 S.2.1 dL_foretold_699 (by decide) ?_
    refine lv_idiv S.1 S.2.1 dL_foretold_700 (by decide) ?_
    rw [show nI d / 2 = nI (d / 2) from pk_div (d := 2) (by omega) (by decide) (by decide)]
    refine lv_isub S.1 S.2.1 dL_foretold_701 ?_
    rw [show nI d - nI (d / 2) = nI (d - d / 2) from nI_sub (by omega)]
    refine x_ownQ (st1 := [.int (a_pass v2 (nI (d - d / 2)))]) (x_V0 (As := [.int (nI (d - d / 2))]) (rest := []) S mi_X11_pass qw1283 (k_pass l D (va_A u H.size) u α hR (by omega) (nI (d - d / 2)) hB) hK hP (wd_own hD) (hE.own hS hD hA) (hB.recv hK hP) rfl rfl hl.1 (Nat.le_of_ble_eq_true rfl) rfl rfl ⟨(Nat.le_of_ble_eq_true rfl), (Nat.le_of_ble_eq_true rfl)⟩ ⟨(Nat.le_of_ble_eq_true rfl), (Nat.le_of_ble_eq_true rfl)⟩ dL_foretold_702) hS hD hA rfl (fun u H locs hq hP hD hS hkp => ?_)
    obtain ⟨hB, hsm⟩ := hq
    have hW := hkp.2 _ _ _ _ hW
    have hTz := hkp.2 _ _ _ _ hTz
    clear hkp
    have hQ := hQ.same hsm (Nat.le_refl _)
    clear hsm
    have sp2 := sp_pass hR (by omega) hX2 (nI (d - d / 2))
    obtain ⟨q2, -⟩ := pass_nn hR (by omega) hX2 (d := d - d / 2) (by omega) (by omega)
    have hH2 := step_hl sp2 q2 hH1 (show 1 ≤ 7 by decide)
    obtain ⟨hR3, hX3, e21, -⟩ := sp2
    have h213 := e21.trans h212
    rw [show d / 2 + (d - d / 2) = d by omega] at ep
    have ep2 : (n_pass v2 (nI (d - d / 2))).1 = v.1 := (ep.trans (pass_same p2 h211 (by omega) (by omega))).trans hpd.symm
    generalize n_pass v2 (nI (d - d / 2)) = v3 at hB hR3 hX3 h213 hH2 ep2
    generalize a_pass v2 (nI (d - d / 2)) = x3 at q2 ⊢
    have hR := hR3
    have h213v : v3.2.1 = v.2.1 := h213.trans h21.symm
    have hTX := TXT_same hTX ep2 h213v
    refine lv_if_lt (tgt := 738) S.1 S.2.1 dL_foretold_705 (by decide) (fun z9 => absurd z9 (q2)) (fun _ => ?_)
    refine lv_aload_n S.1 S.2.1 dL_foretold_708 rfl (lv_at hl 5 rfl) ?_
    refine x_ownG (x_St (As := [.ref (α 0)]) (rest := []) S ms_L_told qw1398 (l_told l D (va_A u H.size) u α hR (by omega) hB (by have h9 := hQ.len; omega) (nH := H.size) (fun q hq => .inr hq) hTX (val_2 hR).1 (val_2 hR).2.2 (val_3 hR).1 (val_3 hR).2) (stX_and stX_sz (stX_and stX_cn stX_dg)) hK hP (wd_own hD) (hE.own hS hD hA) ⟨Nat.le_refl _, hC, hG.own hS hD hA⟩ rfl rfl hl.1 (Nat.le_of_ble_eq_true rfl) rfl rfl ⟨(Nat.le_of_ble_eq_true rfl), (Nat.le_of_ble_eq_true rfl)⟩ ⟨(Nat.le_of_ble_eq_true rfl), (Nat.le_of_ble_eq_true rfl)⟩ dL_foretold_709) hS hD hA (fun V H locs hq hS hown => ?_)
    obtain ⟨a7, x7, k7, f7, u1, rfl, hL7, hn7, hu1, hB, hsm, hP, hD1⟩ := hq
    have hT7 := st_own S.2.2.2.2 hK hP hD1
    have hP := wp_left hP
    obtain ⟨hD, hkp⟩ := hown u1 (wd_left hD1)
    clear hown hD1 hu1
    have hW := hkp.2 _ _ _ _ hW
    have hTz := hkp.2 _ _ _ _ hTz
    clear hkp
    have hQ := hQ.same hsm (Nat.le_refl _)
    clear hsm
    obtain ⟨u, hue⟩ : ∃ u, u = u1 := ⟨_, rfl⟩
    rw [← hue] at hP hD hB hQ hW hTz hT7
    clear hue
    rw [tolL_same ep2 h213v] at hL7
    obtain ⟨ek, he⟩ := hL7.eq hLz
    rw [ek] at hT7 he
    refine lv_aload S.1 S.2.1 dL_foretold_712 (lv_at hl 1 rfl) ?_
    refine x_aftR (st1 := [.int 1]) (x_V (As := [.ref az]) (rest := []) S mi_J0_equals_9ea2d qw1589 (x_J0_equals_9ea2d l D (va_A u H.size) u a7 _ az _ kz _ _ (by omega) he) (stX_and stX_tx stX_tx) hK hP (wd_own hD) (hE.own hS hD hA) ⟨hT7, hTz⟩ hT7.recv rfl rfl hl.1 (Nat.le_of_ble_eq_true rfl) rfl rfl ⟨(Nat.le_of_ble_eq_true rfl), (Nat.le_of_ble_eq_true rfl)⟩ ⟨(Nat.le_of_ble_eq_true rfl), (Nat.le_of_ble_eq_true rfl)⟩ dL_foretold_714) hS (wa_sub hD (fun q hq => hA q (Nat.le_trans hS.1 hq))) rfl (fun locs hS => ?_)
    clear he hT7 hL7 hTz
    refine lv_if_eq (tgt := 738) S.1 S.2.1 dL_foretold_717 (by decide) (fun z9 => absurd z9 (by decide)) (fun _ => ?_)
    refine lv_aload_n S.1 S.2.1 dL_foretold_720 rfl (lv_at hl 5 rfl) ?_
    refine x_ownQ (st1 := [.int (a_undo v3)]) (x_V0 (As := []) (rest := []) S mi_X11_undo qw1537 (k_undo l D (va_A u H.size) u α hR (by omega)  hB) hK hP (wd_own hD) (hE.own hS hD hA) (hB.recv hK hP) rfl rfl hl.1 (Nat.le_of_ble_eq_true rfl) rfl rfl ⟨(Nat.le_of_ble_eq_true rfl), (Nat.le_of_ble_eq_true rfl)⟩ ⟨(Nat.le_of_ble_eq_true rfl), (Nat.le_of_ble_eq_true rfl)⟩ dL_foretold_721) hS hD hA rfl (fun u H locs hq hP hD hS hkp => ?_)
    obtain ⟨hB, hsm⟩ := hq
    have hW := hkp.2 _ _ _ _ hW
    clear hkp
    have hQ := hQ.same hsm (Nat.le_refl _)
    clear hsm
    obtain ⟨r1, r2, r3, r4, -⟩ := hH2.pop
    have hR4 := q_undo hR (by omega)
    have h214 := r4.trans h213
    generalize n_undo v3 = v4 at hB hR4 h214 r2 r3
    generalize a_undo v3 = x4 at r1 ⊢
    have hR := hR4
    refine lv_if_lt (tgt := 738) S.1 S.2.1 dL_foretold_724 (by decide) (fun z9 => absurd z9 (r1)) (fun _ => ?_)
    refine lv_aload_n S.1 S.2.1 dL_foretold_727 rfl (lv_at hl 5 rfl) ?_
    refine x_ownQ (st1 := [.int (a_undo v4)]) (x_V0 (As := []) (rest := []) S mi_X11_undo qw1537 (k_undo l D (va_A u H.size) u α hR (by omega)  hB) hK hP (wd_own hD) (hE.own hS hD hA) (hB.recv hK hP) rfl rfl hl.1 (Nat.le_of_ble_eq_true rfl) rfl rfl ⟨(Nat.le_of_ble_eq_true rfl), (Nat.le_of_ble_eq_true rfl)⟩ ⟨(Nat.le_of_ble_eq_true rfl), (Nat.le_of_ble_eq_true rfl)⟩ dL_foretold_728) hS hD hA rfl (fun u H locs hq hP hD hS hkp => ?_)
    obtain ⟨hB, hsm⟩ := hq
    have hW := hkp.2 _ _ _ _ hW
    clear hkp
    have hQ := hQ.same hsm (Nat.le_refl _)
    clear hsm
    obtain ⟨s1, s2, s3, s4, -⟩ := r3.pop
    have hR5 := q_undo hR (by omega)
    have h215 := s4.trans h214
    have s2 := s2.trans p2
    have hX5 := ex_same hX0 s2
    generalize n_undo v4 = v5 at hB hR5 h215 s2 hX5
    generalize a_undo v4 = x5 at s1 ⊢
    refine lv_if_lt (tgt := 738) S.1 S.2.1 dL_foretold_731 (by decide) (fun z9 => absurd z9 (s1)) (fun _ => ?_)
    refine lv_iconst (v := 1) S.1 S.2.1 dL_foretold_734 (by decide) ?_
    refine lv_goto (tgt := 739) S.1 S.2.1 dL_foretold_735 (by decide) ?_
    refine lv_istore (lv' := [(9, .int 1), (17, .ref az), (12, .int (nI d)), (2, .ref wa), (1, .ref qa), (0, .ref (α 0))]) S.1 S.2.1 dL_foretold_739 hl (by decide) rfl (fun ls hl => ?_)
    refine W.more (cells' := 8400) (slots' := 332800) ?_ (by decide) (by decide)
    exact fo_end S hK hE hA hG hC hr hlk hEnd hWL hwn hTX0 hN0 hP hD hS hB hQ hR5 hX5 hW h215 s2 (by omega) (lv_sub hl [0, 3, 4, 5] rfl)
end FOE
