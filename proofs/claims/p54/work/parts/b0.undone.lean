/-! THE LAW: undone, its first half -/
theorem QW.len {D : va_G} {k qa : Nat} {u : va_W} {y : Int32} (h : QW D k u qa y) : k < u.length := by
  obtain ⟨f, h1, -⟩ := h
  exact (List.getElem?_eq_some_iff.mp h1).1
section UND
variable {pg : Program} {l : Launch} {en : Env} {s : State} {mi : MethodId} {ar : Array Value} {below : List Frame} {me : Method} {co : Code} {Z : State → Prop} {H : Heap} {locs : List Loc} {ls : Array Slot} {D : va_G} {A : Nat → Prop} {α : Nat → Nat} {u : va_W} {v v0 : VT} {N N0 P B Q qa : Nat} {y : Int32} {wa wv wn n0 n1 n2 : Nat} {wf : Nat → Int32}
theorem nI_prd (k : Nat) : nI (k + 1) + (-1 : Int32) = nI k := by
  rw [← nI_1, Int32.add_assoc]
  show nI k + ((1 : Int32) + -1) = nI k
  rw [show (1 : Int32) + -1 = 0 by decide, Int32.add_zero]
set_option maxHeartbeats 4000000 in
set_option maxRecDepth 100000 in
theorem ud_c (S : CallFix pg mi co cL_undone 7 s ar lw_all RL) (hK : va_K D vwCl (gTys D) s) (hE : EV D A s s.heap) (hA : ∀ q, s.heap.size ≤ q → A q) (hG : DGf A s s.heap) (hC : CN s) (hWL : BC wf wn (tolL v0 n0 n1 n2 P B)) (hwn : wn ≤ 10476) (hTX0 : TXT v0 n0 n1 n2) (hN0 : N0 ≤ 550) {dy : Int32} (kk : ∀ {u : va_W} {v : VT} {y : Int32} {N : Nat} {H : Heap} {locs : List Loc} {ls : Array Slot}, va_P D vwCl u H → va_D A u → va_S A s.heap H locs → OB D α u v → QW D 234 u qa y → RA N P B Q v → Tx (va_A u H.size) s H wa wv wn wf → v.2.1 = v0.2.1 → v.1 = v0.1 → N ≤ N0 + 18 → lv_has ls 7 [(5, .int 1), (2, .ref wa), (1, .ref qa), (0, .ref (α 0))] → W pg l en ({ frames := 12, cells := 7600, slots := 290000, locals := 380 } : Room) s mi ar below me co H locs 4200 166400 Z (F0 mi 272 ls [])) {L : List StT} (hP : va_P D vwCl u H) (hD : va_D A u) (hS : va_S A s.heap H locs) (hB : OB D α u v) (hQ : QW D 234 u qa y) (hR : RA N P B Q v) (hW : Tx (va_A u H.size) s H wa wv wn wf) (h21 : v.2.1 = v0.2.1) (hH : HL v L) (hBt : BOT v L v0.1) (hN : N + L.length ≤ N0 + 18) (hL8 : L.length ≤ 8) (hl : lv_has ls 7 [(5, .int 1), (4, .int dy), (3, .int (nI L.length)), (2, .ref wa), (1, .ref qa), (0, .ref (α 0))]) : W pg l en ({ frames := 12, cells := 7600, slots := 290000, locals := 380 } : Room) s mi ar below me co H locs 4200 166400 Z (F0 mi 243 ls []) := by
  induction L generalizing v u y N H locs ls with
  | nil =>
    refine lv_iload_n S.1 S.2.1 dL_undone_243 rfl (lv_at hl 2 rfl) ?_
    refine lv_if_le (tgt := 272) S.1 S.2.1 dL_undone_244 (by decide) (fun _ => ?_) (fun z9 => absurd (Int32.le_refl _) z9)
    exact kk hP hD hS hB hQ hR hW h21 hBt.end (by have e0 : ([] : List StT).length = 0 := rfl; omega) (lv_sub hl [0, 3, 4, 5] rfl)
  | cons t L ih =>
    have eL : (t :: L).length = L.length + 1 := rfl
    rw [eL] at hl hN hL8
    refine lv_iload_n S.1 S.2.1 dL_undone_243 rfl (lv_at hl 2 rfl) ?_
    refine lv_if_le (tgt := 272) S.1 S.2.1 dL_undone_244 (by decide) (fun z9 => absurd z9 (fun z9 => absurd ((nI_leI (b := 0) (by omega) (by decide)).mp z9) (by omega))) (fun _ => ?_)
    refine lv_iload S.1 S.2.1 dL_undone_247 (lv_at hl 0 rfl) ?_
    refine lv_if_eq (tgt := 272) S.1 S.2.1 dL_undone_249 (by decide) (fun z9 => absurd z9 (by decide)) (fun _ => ?_)
    refine lv_aload_n S.1 S.2.1 dL_undone_252 rfl (lv_at hl 5 rfl) ?_
    refine x_ownQ (st1 := [.int (a_undo v)]) (x_V0 (As := []) (rest := []) S mi_X11_undo qw1537 (k_undo l D (va_A u H.size) u α hR (by omega)  hB) hK hP (wd_own hD) (hE.own hS hD hA) (hB.recv hK hP) rfl rfl hl.1 (Nat.le_of_ble_eq_true rfl) rfl rfl ⟨(Nat.le_of_ble_eq_true rfl), (Nat.le_of_ble_eq_true rfl)⟩ ⟨(Nat.le_of_ble_eq_true rfl), (Nat.le_of_ble_eq_true rfl)⟩ dL_undone_253) hS hD hA rfl (fun u H locs hq hP hD hS hkp => ?_)
    obtain ⟨hB, hsm⟩ := hq
    have hW := hkp.2 _ _ _ _ hW
    clear hkp
    have hQ := hQ.same hsm (Nat.le_refl _)
    clear hsm
    obtain ⟨p1, p2, p3, p4, p5⟩ := hH.pop
    have hR1 := q_undo hR (by omega)
    have hBt1 := hBt.pop p2
    have h211 := p4.trans h21
    generalize n_undo v = v1 at hB hR1 hBt1 h211 p3
    generalize a_undo v = x1 at p1 ⊢
    refine lv_if_lt (tgt := 263) S.1 S.2.1 dL_undone_256 (by decide) (fun z9 => absurd z9 (p1)) (fun _ => ?_)
    refine lv_iconst (v := 1) S.1 S.2.1 dL_undone_259 (by decide) ?_
    refine lv_goto (tgt := 264) S.1 S.2.1 dL_undone_260 (by decide) ?_
    refine lv_istore (lv' := [(5, .int 1), (4, .int dy), (3, .int (nI (L.length + 1))), (2, .ref wa), (1, .ref qa), (0, .ref (α 0))]) S.1 S.2.1 dL_undone_264 hl (by decide) rfl (fun ls hl => ?_)
    refine lv_iinc (v := (nI L.length)) (lv' := [(3, .int (nI L.length)), (5, .int 1), (4, .int dy), (2, .ref wa), (1, .ref qa), (0, .ref (α 0))]) S.1 S.2.1 dL_undone_266 hl (k := 2) rfl (nI_prd L.length) (by decide) rfl (fun ls hl => ?_)
    refine lv_goto (tgt := 243) S.1 S.2.1 dL_undone_269 (by decide) ?_
    exact ih hP hD hS hB hQ hR1 hW h211 p3 hBt1 (by omega) (by omega) (lv_sub hl [1, 2, 0, 3, 4, 5] rfl)
set_option maxHeartbeats 4000000 in
set_option maxRecDepth 100000 in
theorem ud_b (S : CallFix pg mi co cL_undone 7 s ar lw_all RL) (hK : va_K D vwCl (gTys D) s) (hE : EV D A s s.heap) (hA : ∀ q, s.heap.size ≤ q → A q) (hG : DGf A s s.heap) (hC : CN s) (hWL : BC wf wn (tolL v0 n0 n1 n2 P B)) (hwn : wn ≤ 10476) (hTX0 : TXT v0 n0 n1 n2) (hN0 : N0 ≤ 550) (kk : ∀ {u : va_W} {v : VT} {y : Int32} {N : Nat} {H : Heap} {locs : List Loc} {ls : Array Slot}, va_P D vwCl u H → va_D A u → va_S A s.heap H locs → OB D α u v → QW D 234 u qa y → RA N P B Q v → Tx (va_A u H.size) s H wa wv wn wf → v.2.1 = v0.2.1 → v.1 = v0.1 → N ≤ N0 + 18 → lv_has ls 7 [(5, .int 1), (2, .ref wa), (1, .ref qa), (0, .ref (α 0))] → W pg l en ({ frames := 12, cells := 7600, slots := 290000, locals := 380 } : Room) s mi ar below me co H locs 4200 166400 Z (F0 mi 272 ls [])) {L : List StT} (hP : va_P D vwCl u H) (hD : va_D A u) (hS : va_S A s.heap H locs) (hB : OB D α u v) (hQ : QW D 234 u qa y) (hR : RA N P B Q v) (hW : Tx (va_A u H.size) s H wa wv wn wf) (h21 : v.2.1 = v0.2.1) (hk0 : v_kpF v 0 = v0.1) (hkz : ¬ v_kpZ v 0 = 0) (hH : HL v L) (hBt : BOT v L v0.1) (hL7 : L.length ≤ 7) (hN : N ≤ N0 + 8) (hl : lv_has ls 7 [(5, .int (nI 7)), (4, .int (v_day v0)), (3, .int (nI L.length)), (2, .ref wa), (1, .ref qa), (0, .ref (α 0))]) : W pg l en ({ frames := 12, cells := 7600, slots := 290000, locals := 380 } : Room) s mi ar below me co H locs 2100 83200 Z (F0 mi 46 ls []) := by
  refine lv_iload_n S.1 S.2.1 dL_undone_46 rfl (lv_at hl 2 rfl) ?_
  refine lv_aload_n S.1 S.2.1 dL_undone_47 rfl (lv_at hl 5 rfl) ?_
  refine lv_iconst (v := 0) S.1 S.2.1 dL_undone_48 (by decide) ?_
  refine x_ownQ (st1 := [.int (a_restore v (0 : Int32)), .int (nI L.length)]) (x_V0 (As := [.int 0]) (rest := [.int (nI L.length)]) S mi_X11_restore qw1609 (k_restore l D (va_A u H.size) u α hR (by omega) (0 : Int32) hB) hK hP (wd_own hD) (hE.own hS hD hA) (hB.recv hK hP) rfl rfl hl.1 (Nat.le_of_ble_eq_true rfl) rfl rfl ⟨(Nat.le_of_ble_eq_true rfl), (Nat.le_of_ble_eq_true rfl)⟩ ⟨(Nat.le_of_ble_eq_true rfl), (Nat.le_of_ble_eq_true rfl)⟩ dL_undone_49) hS hD hA rfl (fun u H locs hq hP hD hS hkp => ?_)
  obtain ⟨hB, hsm⟩ := hq
  have hW := hkp.2 _ _ _ _ hW
  clear hkp
  have hQ := hQ.same hsm (Nat.le_refl _)
  clear hsm
  obtain ⟨r1, r2, r3, r4, r5⟩ := ef_back v hkz
  have hR1 := q_restore hR (by omega) 0
  have hH1 : HL (n_restore v 0) (v.1 :: L) := hH.push r4 hL7
  have hBt1 : BOT (n_restore v 0) (v.1 :: L) v0.1 := hBt.push
  rw [hk0] at r1 r2
  have h211 := r3.trans h21
  obtain ⟨d, hd, hd2⟩ := (ra_sc hR1).1
  have hdd : v_day (n_restore v 0) = v_day v0 := congrArg (fun t : StT => t.1) r2
  have hx1 : ¬ a_restore v 0 < 0 := by
    have e : a_restore v 0 = nI d := r1.trans (hdd.symm.trans hd)
    rw [e]
    exact nI_pos (by omega)
  generalize n_restore v 0 = v1 at hB hR1 hH1 hBt1 h211 r2 hdd
  generalize a_restore v 0 = x1 at hx1 ⊢
  refine lv_if_lt (tgt := 59) S.1 S.2.1 dL_undone_52 (by decide) (fun z9 => absurd z9 (hx1)) (fun _ => ?_)
  refine lv_iconst (v := 1) S.1 S.2.1 dL_undone_55 (by decide) ?_
  refine lv_goto (tgt := 60) S.1 S.2.1 dL_undone_56 (by decide) ?_
  refine lv_iadd S.1 S.2.1 dL_undone_60 ?_
  rw [show nI L.length + 1 = nI (v.1 :: L).length from nI_add L.length 1]
  refine lv_istore_n (lv' := [(3, .int (nI (v.1 :: L).length)), (5, .int (nI 7)), (4, .int (v_day v0)), (2, .ref wa), (1, .ref qa), (0, .ref (α 0))]) S.1 S.2.1 dL_undone_61 rfl hl (by decide) rfl (fun ls hl => ?_)
  refine lv_aload_n S.1 S.2.1 dL_undone_62 rfl (lv_at hl 5 rfl) ?_
  have hTX : TXT v1 n0 n1 n2 := TXT_same hTX0 r2 h211
  have hR := hR1
  refine x_ownG (x_St (As := [.ref (α 0)]) (rest := []) S ms_L_told qw1398 (l_told l D (va_A u H.size) u α hR (by omega) hB (by have h9 := hQ.len; omega) (nH := H.size) (fun q hq => .inr hq) hTX (val_2 hR).1 (val_2 hR).2.2 (val_3 hR).1 (val_3 hR).2) (stX_and stX_sz (stX_and stX_cn stX_dg)) hK hP (wd_own hD) (hE.own hS hD hA) ⟨Nat.le_refl _, hC, hG.own hS hD hA⟩ rfl rfl hl.1 (Nat.le_of_ble_eq_true rfl) rfl rfl ⟨(Nat.le_of_ble_eq_true rfl), (Nat.le_of_ble_eq_true rfl)⟩ ⟨(Nat.le_of_ble_eq_true rfl), (Nat.le_of_ble_eq_true rfl)⟩ dL_undone_63) hS hD hA (fun V H locs hq hS hown => ?_)
  obtain ⟨a2, x2, k2, f2, u1, rfl, hL2, hn2, hu1, hB, hsm, hP, hD1⟩ := hq
  have hT2 := st_own S.2.2.2.2 hK hP hD1
  have hP := wp_left hP
  obtain ⟨hD, hkp⟩ := hown u1 (wd_left hD1)
  clear hown hD1 hu1
  have hW := hkp.2 _ _ _ _ hW
  clear hkp
  have hQ := hQ.same hsm (Nat.le_refl _)
  clear hsm
  obtain ⟨u, hue⟩ : ∃ u, u = u1 := ⟨_, rfl⟩
  rw [← hue] at hP hD hB hQ hW hT2
  clear hue
  rw [tolL_same r2 h211] at hL2
  obtain ⟨ek, he⟩ := hL2.eq hWL
  rw [ek] at hT2 he
  refine lv_aload_n S.1 S.2.1 dL_undone_66 rfl (lv_at hl 3 rfl) ?_
  refine x_aftR (st1 := [.int 1]) (x_V (As := [.ref wa]) (rest := []) S mi_J0_equals_9ea2d qw1589 (x_J0_equals_9ea2d l D (va_A u H.size) u a2 _ wa _ wn _ _ (by omega) he) (stX_and stX_tx stX_tx) hK hP (wd_own hD) (hE.own hS hD hA) ⟨hT2, hW⟩ hT2.recv rfl rfl hl.1 (Nat.le_of_ble_eq_true rfl) rfl rfl ⟨(Nat.le_of_ble_eq_true rfl), (Nat.le_of_ble_eq_true rfl)⟩ ⟨(Nat.le_of_ble_eq_true rfl), (Nat.le_of_ble_eq_true rfl)⟩ dL_undone_67) hS (wa_sub hD (fun q hq => hA q (Nat.le_trans hS.1 hq))) rfl (fun locs hS => ?_)
  refine lv_if_eq (tgt := 240) S.1 S.2.1 dL_undone_70 (by decide) (fun z9 => absurd z9 (by decide)) (fun _ => ?_)
  refine lv_aload_n S.1 S.2.1 dL_undone_73 rfl (lv_at hl 5 rfl) ?_
  refine lv_iconst (v := 0) S.1 S.2.1 dL_undone_74 (by decide) ?_
  refine x_ownQ (st1 := [.int (a_value v1 (0 : Int32))]) (x_V0 (As := [.int 0]) (rest := []) S mi_X11_value qw725 (k_value l D (va_A u H.size) u α hR (by omega) (0 : Int32) hB) hK hP (wd_own hD) (hE.own hS hD hA) (hB.recv hK hP) rfl rfl hl.1 (Nat.le_of_ble_eq_true rfl) rfl rfl ⟨(Nat.le_of_ble_eq_true rfl), (Nat.le_of_ble_eq_true rfl)⟩ ⟨(Nat.le_of_ble_eq_true rfl), (Nat.le_of_ble_eq_true rfl)⟩ dL_undone_75) hS hD hA rfl (fun u H locs hq hP hD hS hkp => ?_)
  obtain ⟨hB, hsm⟩ := hq
  have hW := hkp.2 _ _ _ _ hW
  clear hkp
  have hQ := hQ.same hsm (Nat.le_refl _)
  clear hsm
  rw [show (a_value v1 (0 : Int32)) = (v_day v0) from (av_0 v1).trans hdd]
  refine lv_iload S.1 S.2.1 dL_undone_78 (lv_at hl 2 rfl) ?_
  refine lv_icmp_ne (tgt := 240) S.1 S.2.1 dL_undone_80 (by decide) (fun z9 => absurd (rfl) z9) (fun _ => ?_)
  refine lv_aload_n S.1 S.2.1 dL_undone_83 rfl (lv_at hl 5 rfl) ?_
  refine lv_bipush (v := 6) S.1 S.2.1 dL_undone_84 (by decide) ?_
  refine lv_iconst (v := 1) S.1 S.2.1 dL_undone_86 (by decide) ?_
  refine x_ownQ (st1 := [.int (a_sail v1 (6 : Int32) (1 : Int32))]) (x_V0 (As := [.int 6, .int 1]) (rest := []) S mi_X11_sail qw1091 (k_sail l D (va_A u H.size) u α hR (by omega) (6 : Int32) (1 : Int32) hB) hK hP (wd_own hD) (hE.own hS hD hA) (hB.recv hK hP) rfl rfl hl.1 (Nat.le_of_ble_eq_true rfl) rfl rfl ⟨(Nat.le_of_ble_eq_true rfl), (Nat.le_of_ble_eq_true rfl)⟩ ⟨(Nat.le_of_ble_eq_true rfl), (Nat.le_of_ble_eq_true rfl)⟩ dL_undone_87) hS hD hA rfl (fun u H locs hq hP hD hS hkp => ?_)
  obtain ⟨hB, hsm⟩ := hq
  have hW := hkp.2 _ _ _ _ hW
  clear hkp
  have hQ := hQ.same hsm (Nat.le_refl _)
  clear hsm
  rw [(rf_1 hR).2] at hB
  rw [(rf_1 hR).1]
  refine lv_iconst (v := (-1)) S.1 S.2.1 dL_undone_90 (by decide) ?_
  refine lv_icmp_ne (tgt := 240) S.1 S.2.1 dL_undone_91 (by decide) (fun z9 => absurd (rfl) z9) (fun _ => ?_)
  refine lv_aload_n S.1 S.2.1 dL_undone_94 rfl (lv_at hl 5 rfl) ?_
  refine lv_iconst (v := (-1)) S.1 S.2.1 dL_undone_95 (by decide) ?_
  refine lv_iconst (v := 1) S.1 S.2.1 dL_undone_96 (by decide) ?_
  refine x_ownQ (st1 := [.int (a_delay v1 ((-1) : Int32) (1 : Int32))]) (x_V0 (As := [.int (-1), .int 1]) (rest := []) S mi_X11_delay qw1121 (k_delay l D (va_A u H.size) u α hR (by omega) ((-1) : Int32) (1 : Int32) hB) hK hP (wd_own hD) (hE.own hS hD hA) (hB.recv hK hP) rfl rfl hl.1 (Nat.le_of_ble_eq_true rfl) rfl rfl ⟨(Nat.le_of_ble_eq_true rfl), (Nat.le_of_ble_eq_true rfl)⟩ ⟨(Nat.le_of_ble_eq_true rfl), (Nat.le_of_ble_eq_true rfl)⟩ dL_undone_97) hS hD hA rfl (fun u H locs hq hP hD hS hkp => ?_)
  obtain ⟨hB, hsm⟩ := hq
  have hW := hkp.2 _ _ _ _ hW
  clear hkp
  have hQ := hQ.same hsm (Nat.le_refl _)
  clear hsm
  rw [(rf_2 hR).2] at hB
  rw [(rf_2 hR).1]
  refine lv_iconst (v := (-1)) S.1 S.2.1 dL_undone_100 (by decide) ?_
  refine lv_icmp_ne (tgt := 240) S.1 S.2.1 dL_undone_101 (by decide) (fun z9 => absurd (rfl) z9) (fun _ => ?_)
  refine lv_aload_n S.1 S.2.1 dL_undone_104 rfl (lv_at hl 5 rfl) ?_
  refine lv_bipush (v := 6) S.1 S.2.1 dL_undone_105 (by decide) ?_
  refine x_ownQ (st1 := [.int (a_comeHome v1 (6 : Int32))]) (x_V0 (As := [.int 6]) (rest := []) S mi_X11_comeHome qw1131 (k_comeHome l D (va_A u H.size) u α hR (by omega) (6 : Int32) hB) hK hP (wd_own hD) (hE.own hS hD hA) (hB.recv hK hP) rfl rfl hl.1 (Nat.le_of_ble_eq_true rfl) rfl rfl ⟨(Nat.le_of_ble_eq_true rfl), (Nat.le_of_ble_eq_true rfl)⟩ ⟨(Nat.le_of_ble_eq_true rfl), (Nat.le_of_ble_eq_true rfl)⟩ dL_undone_107) hS hD hA rfl (fun u H locs hq hP hD hS hkp => ?_)
  obtain ⟨hB, hsm⟩ := hq
  have hW := hkp.2 _ _ _ _ hW
  clear hkp
  have hQ := hQ.same hsm (Nat.le_refl _)
  clear hsm
  rw [(rf_3 hR).2] at hB
  rw [(rf_3 hR).1]
  refine lv_iconst (v := (-1)) S.1 S.2.1 dL_undone_110 (by decide) ?_
  refine lv_icmp_ne (tgt := 240) S.1 S.2.1 dL_undone_111 (by decide) (fun z9 => absurd (rfl) z9) (fun _ => ?_)
  refine lv_aload_n S.1 S.2.1 dL_undone_114 rfl (lv_at hl 5 rfl) ?_
  refine lv_bipush (v := 20) S.1 S.2.1 dL_undone_115 (by decide) ?_
  refine lv_bipush (v := (-2)) S.1 S.2.1 dL_undone_117 (by decide) ?_
  refine x_ownQ (st1 := [.int (a_join v1 (20 : Int32) ((-2) : Int32))]) (x_V0 (As := [.int 20, .int (-2)]) (rest := []) S mi_X11_join qw1143 (k_join l D (va_A u H.size) u α hR (by omega) (20 : Int32) ((-2) : Int32) hB) hK hP (wd_own hD) (hE.own hS hD hA) (hB.recv hK hP) rfl rfl hl.1 (Nat.le_of_ble_eq_true rfl) rfl rfl ⟨(Nat.le_of_ble_eq_true rfl), (Nat.le_of_ble_eq_true rfl)⟩ ⟨(Nat.le_of_ble_eq_true rfl), (Nat.le_of_ble_eq_true rfl)⟩ dL_undone_119) hS hD hA rfl (fun u H locs hq hP hD hS hkp => ?_)
  obtain ⟨hB, hsm⟩ := hq
  have hW := hkp.2 _ _ _ _ hW
  clear hkp
  have hQ := hQ.same hsm (Nat.le_refl _)
  clear hsm
  rw [(rf_4 hR).2] at hB
  rw [(rf_4 hR).1]
  refine lv_iconst (v := (-1)) S.1 S.2.1 dL_undone_122 (by decide) ?_
  refine lv_icmp_ne (tgt := 240) S.1 S.2.1 dL_undone_123 (by decide) (fun z9 => absurd (rfl) z9) (fun _ => ?_)
  refine lv_aload_n S.1 S.2.1 dL_undone_126 rfl (lv_at hl 5 rfl) ?_
  refine lv_iconst (v := 0) S.1 S.2.1 dL_undone_127 (by decide) ?_
  refine lv_iconst (v := (-1)) S.1 S.2.1 dL_undone_128 (by decide) ?_
  refine x_ownQ (st1 := [.int (a_join v1 (0 : Int32) ((-1) : Int32))]) (x_V0 (As := [.int 0, .int (-1)]) (rest := []) S mi_X11_join qw1143 (k_join l D (va_A u H.size) u α hR (by omega) (0 : Int32) ((-1) : Int32) hB) hK hP (wd_own hD) (hE.own hS hD hA) (hB.recv hK hP) rfl rfl hl.1 (Nat.le_of_ble_eq_true rfl) rfl rfl ⟨(Nat.le_of_ble_eq_true rfl), (Nat.le_of_ble_eq_true rfl)⟩ ⟨(Nat.le_of_ble_eq_true rfl), (Nat.le_of_ble_eq_true rfl)⟩ dL_undone_129) hS hD hA rfl (fun u H locs hq hP hD hS hkp => ?_)
  obtain ⟨hB, hsm⟩ := hq
  have hW := hkp.2 _ _ _ _ hW
  clear hkp
  have hQ := hQ.same hsm (Nat.le_refl _)
  clear hsm
  rw [(rf_5 hR).2] at hB
  rw [(rf_5 hR).1]
  refine lv_iconst (v := (-1)) S.1 S.2.1 dL_undone_132 (by decide) ?_
  refine lv_icmp_ne (tgt := 240) S.1 S.2.1 dL_undone_133 (by decide) (fun z9 => absurd (rfl) z9) (fun _ => ?_)
  refine lv_aload_n S.1 S.2.1 dL_undone_136 rfl (lv_at hl 5 rfl) ?_
  refine lv_iconst (v := 5) S.1 S.2.1 dL_undone_137 (by decide) ?_
  refine x_ownQ (st1 := [.int (a_open v1 (5 : Int32))]) (x_V0 (As := [.int 5]) (rest := []) S mi_X11_open qw389 (k_open l D (va_A u H.size) u α hR (by omega) (5 : Int32) hB) hK hP (wd_own hD) (hE.own hS hD hA) (hB.recv hK hP) rfl rfl hl.1 (Nat.le_of_ble_eq_true rfl) rfl rfl ⟨(Nat.le_of_ble_eq_true rfl), (Nat.le_of_ble_eq_true rfl)⟩ ⟨(Nat.le_of_ble_eq_true rfl), (Nat.le_of_ble_eq_true rfl)⟩ dL_undone_138) hS hD hA rfl (fun u H locs hq hP hD hS hkp => ?_)
  obtain ⟨hB, hsm⟩ := hq
  have hW := hkp.2 _ _ _ _ hW
  clear hkp
  have hQ := hQ.same hsm (Nat.le_refl _)
  clear hsm
  rw [(rf_6 hR).2] at hB
  rw [(rf_6 hR).1]
  refine lv_iconst (v := (-1)) S.1 S.2.1 dL_undone_141 (by decide) ?_
  refine lv_icmp_ne (tgt := 240) S.1 S.2.1 dL_undone_142 (by decide) (fun z9 => absurd (rfl) z9) (fun _ => ?_)
  refine lv_aload_n S.1 S.2.1 dL_undone_145 rfl (lv_at hl 5 rfl) ?_
  refine lv_iconst (v := 0) S.1 S.2.1 dL_undone_146 (by decide) ?_
  refine lv_iconst (v := 0) S.1 S.2.1 dL_undone_147 (by decide) ?_
  refine lv_bipush (v := (-2)) S.1 S.2.1 dL_undone_148 (by decide) ?_
  refine x_ownQ (st1 := [.int (a_give v1 (0 : Int32) (0 : Int32) ((-2) : Int32))]) (x_V0 (As := [.int 0, .int 0, .int (-2)]) (rest := []) S mi_X11_give qw1151 (k_give l D (va_A u H.size) u α hR (by omega) (0 : Int32) (0 : Int32) ((-2) : Int32) hB) hK hP (wd_own hD) (hE.own hS hD hA) (hB.recv hK hP) rfl rfl hl.1 (Nat.le_of_ble_eq_true rfl) rfl rfl ⟨(Nat.le_of_ble_eq_true rfl), (Nat.le_of_ble_eq_true rfl)⟩ ⟨(Nat.le_of_ble_eq_true rfl), (Nat.le_of_ble_eq_true rfl)⟩ dL_undone_150) hS hD hA rfl (fun u H locs hq hP hD hS hkp => ?_)
  obtain ⟨hB, hsm⟩ := hq
  have hW := hkp.2 _ _ _ _ hW
  clear hkp
  have hQ := hQ.same hsm (Nat.le_refl _)
  clear hsm
  rw [(rf_7 hR).2] at hB
  rw [(rf_7 hR).1]
  refine lv_iconst (v := (-1)) S.1 S.2.1 dL_undone_153 (by decide) ?_
  refine lv_icmp_ne (tgt := 240) S.1 S.2.1 dL_undone_154 (by decide) (fun z9 => absurd (rfl) z9) (fun _ => ?_)
  refine lv_aload_n S.1 S.2.1 dL_undone_157 rfl (lv_at hl 5 rfl) ?_
  refine lv_iconst (v := 0) S.1 S.2.1 dL_undone_158 (by decide) ?_
  refine lv_iconst (v := 1) S.1 S.2.1 dL_undone_159 (by decide) ?_
  refine lv_iconst (v := 4) S.1 S.2.1 dL_undone_160 (by decide) ?_
  refine x_ownQ (st1 := [.int (a_give v1 (0 : Int32) (1 : Int32) (4 : Int32))]) (x_V0 (As := [.int 0, .int 1, .int 4]) (rest := []) S mi_X11_give qw1151 (k_give l D (va_A u H.size) u α hR (by omega) (0 : Int32) (1 : Int32) (4 : Int32) hB) hK hP (wd_own hD) (hE.own hS hD hA) (hB.recv hK hP) rfl rfl hl.1 (Nat.le_of_ble_eq_true rfl) rfl rfl ⟨(Nat.le_of_ble_eq_true rfl), (Nat.le_of_ble_eq_true rfl)⟩ ⟨(Nat.le_of_ble_eq_true rfl), (Nat.le_of_ble_eq_true rfl)⟩ dL_undone_161) hS hD hA rfl (fun u H locs hq hP hD hS hkp => ?_)
  obtain ⟨hB, hsm⟩ := hq
  have hW := hkp.2 _ _ _ _ hW
  clear hkp
  have hQ := hQ.same hsm (Nat.le_refl _)
  clear hsm
  rw [(rf_8 hR).2] at hB
  rw [(rf_8 hR).1]
  refine lv_iconst (v := (-1)) S.1 S.2.1 dL_undone_164 (by decide) ?_
  refine lv_icmp_ne (tgt := 240) S.1 S.2.1 dL_undone_165 (by decide) (fun z9 => absurd (rfl) z9) (fun _ => ?_)
  refine lv_aload_n S.1 S.2.1 dL_undone_168 rfl (lv_at hl 5 rfl) ?_
  refine lv_iconst (v := (-1)) S.1 S.2.1 dL_undone_169 (by decide) ?_
  refine x_ownQ (st1 := [.int (a_takeBack v1 ((-1) : Int32))]) (x_V0 (As := [.int (-1)]) (rest := []) S mi_X11_takeBack qw1161 (k_takeBack l D (va_A u H.size) u α hR (by omega) ((-1) : Int32) hB) hK hP (wd_own hD) (hE.own hS hD hA) (hB.recv hK hP) rfl rfl hl.1 (Nat.le_of_ble_eq_true rfl) rfl rfl ⟨(Nat.le_of_ble_eq_true rfl), (Nat.le_of_ble_eq_true rfl)⟩ ⟨(Nat.le_of_ble_eq_true rfl), (Nat.le_of_ble_eq_true rfl)⟩ dL_undone_170) hS hD hA rfl (fun u H locs hq hP hD hS hkp => ?_)
  obtain ⟨hB, hsm⟩ := hq
  have hW := hkp.2 _ _ _ _ hW
  clear hkp
  have hQ := hQ.same hsm (Nat.le_refl _)
  clear hsm
  rw [(rf_9 hR).2] at hB
  rw [(rf_9 hR).1]
  refine lv_iconst (v := (-1)) S.1 S.2.1 dL_undone_173 (by decide) ?_
  refine lv_icmp_ne (tgt := 240) S.1 S.2.1 dL_undone_174 (by decide) (fun z9 => absurd (rfl) z9) (fun _ => ?_)
  refine lv_aload_n S.1 S.2.1 dL_undone_177 rfl (lv_at hl 5 rfl) ?_
  refine lv_iconst (v := 0) S.1 S.2.1 dL_undone_178 (by decide) ?_
  refine lv_iconst (v := 0) S.1 S.2.1 dL_undone_179 (by decide) ?_
  refine lv_iconst (v := 4) S.1 S.2.1 dL_undone_180 (by decide) ?_
  refine x_ownQ (st1 := [.int (a_lay v1 (0 : Int32) (0 : Int32) (4 : Int32))]) (x_V0 (As := [.int 0, .int 0, .int 4]) (rest := []) S mi_X11_lay qw1170 (k_lay l D (va_A u H.size) u α hR (by omega) (0 : Int32) (0 : Int32) (4 : Int32) hB) hK hP (wd_own hD) (hE.own hS hD hA) (hB.recv hK hP) rfl rfl hl.1 (Nat.le_of_ble_eq_true rfl) rfl rfl ⟨(Nat.le_of_ble_eq_true rfl), (Nat.le_of_ble_eq_true rfl)⟩ ⟨(Nat.le_of_ble_eq_true rfl), (Nat.le_of_ble_eq_true rfl)⟩ dL_undone_181) hS hD hA rfl (fun u H locs hq hP hD hS hkp => ?_)
  obtain ⟨hB, hsm⟩ := hq
  have hW := hkp.2 _ _ _ _ hW
  clear hkp
  have hQ := hQ.same hsm (Nat.le_refl _)
  clear hsm
  rw [(rf_10 hR).2] at hB
  rw [(rf_10 hR).1]
  refine lv_iconst (v := (-1)) S.1 S.2.1 dL_undone_184 (by decide) ?_
  refine lv_icmp_ne (tgt := 240) S.1 S.2.1 dL_undone_185 (by decide) (fun z9 => absurd (rfl) z9) (fun _ => ?_)
  refine lv_aload_n S.1 S.2.1 dL_undone_188 rfl (lv_at hl 5 rfl) ?_
  refine lv_iconst (v := 0) S.1 S.2.1 dL_undone_189 (by decide) ?_
  refine lv_bipush (v := 20) S.1 S.2.1 dL_undone_190 (by decide) ?_
  refine x_ownQ (st1 := [.int (a_contest v1 (0 : Int32) (20 : Int32))]) (x_V0 (As := [.int 0, .int 20]) (rest := []) S mi_X11_contest qw1220 (k_contest l D (va_A u H.size) u α hR (by omega) (0 : Int32) (20 : Int32) hB) hK hP (wd_own hD) (hE.own hS hD hA) (hB.recv hK hP) rfl rfl hl.1 (Nat.le_of_ble_eq_true rfl) rfl rfl ⟨(Nat.le_of_ble_eq_true rfl), (Nat.le_of_ble_eq_true rfl)⟩ ⟨(Nat.le_of_ble_eq_true rfl), (Nat.le_of_ble_eq_true rfl)⟩ dL_undone_192) hS hD hA rfl (fun u H locs hq hP hD hS hkp => ?_)
  obtain ⟨⟨blB, blC, hB⟩, hsm⟩ := hq
  have hW := hkp.2 _ _ _ _ hW
  clear hkp
  have hQ := hQ.same hsm (Nat.le_refl _)
  clear hsm
  rw [(rf_11 hR).2 blB blC] at hB
  rw [(rf_11 hR).1]
  refine lv_iconst (v := (-1)) S.1 S.2.1 dL_undone_195 (by decide) ?_
  refine lv_icmp_ne (tgt := 240) S.1 S.2.1 dL_undone_196 (by decide) (fun z9 => absurd (rfl) z9) (fun _ => ?_)
  refine lv_aload_n S.1 S.2.1 dL_undone_199 rfl (lv_at hl 5 rfl) ?_
  refine lv_iconst (v := 0) S.1 S.2.1 dL_undone_200 (by decide) ?_
  refine x_ownQ (st1 := [.int (a_pass v1 (0 : Int32))]) (x_V0 (As := [.int 0]) (rest := []) S mi_X11_pass qw1283 (k_pass l D (va_A u H.size) u α hR (by omega) (0 : Int32) hB) hK hP (wd_own hD) (hE.own hS hD hA) (hB.recv hK hP) rfl rfl hl.1 (Nat.le_of_ble_eq_true rfl) rfl rfl ⟨(Nat.le_of_ble_eq_true rfl), (Nat.le_of_ble_eq_true rfl)⟩ ⟨(Nat.le_of_ble_eq_true rfl), (Nat.le_of_ble_eq_true rfl)⟩ dL_undone_201) hS hD hA rfl (fun u H locs hq hP hD hS hkp => ?_)
  obtain ⟨hB, hsm⟩ := hq
  have hW := hkp.2 _ _ _ _ hW
  clear hkp
  have hQ := hQ.same hsm (Nat.le_refl _)
  clear hsm
  rw [(rf_12 hR).2] at hB
  rw [(rf_12 hR).1]
  refine lv_iconst (v := (-1)) S.1 S.2.1 dL_undone_204 (by decide) ?_
  refine lv_icmp_ne (tgt := 240) S.1 S.2.1 dL_undone_205 (by decide) (fun z9 => absurd (rfl) z9) (fun _ => ?_)
  refine lv_aload_n S.1 S.2.1 dL_undone_208 rfl (lv_at hl 5 rfl) ?_
  refine lv_bipush (v := 100) S.1 S.2.1 dL_undone_209 (by decide) ?_
  refine x_ownQ (st1 := [.int (a_pass v1 (100 : Int32))]) (x_V0 (As := [.int 100]) (rest := []) S mi_X11_pass qw1283 (k_pass l D (va_A u H.size) u α hR (by omega) (100 : Int32) hB) hK hP (wd_own hD) (hE.own hS hD hA) (hB.recv hK hP) rfl rfl hl.1 (Nat.le_of_ble_eq_true rfl) rfl rfl ⟨(Nat.le_of_ble_eq_true rfl), (Nat.le_of_ble_eq_true rfl)⟩ ⟨(Nat.le_of_ble_eq_true rfl), (Nat.le_of_ble_eq_true rfl)⟩ dL_undone_211) hS hD hA rfl (fun u H locs hq hP hD hS hkp => ?_)
  obtain ⟨hB, hsm⟩ := hq
  have hW := hkp.2 _ _ _ _ hW
  clear hkp
  have hQ := hQ.same hsm (Nat.le_refl _)
  clear hsm
  rw [(rf_13 hR).2] at hB
  rw [(rf_13 hR).1]
  refine lv_iconst (v := (-1)) S.1 S.2.1 dL_undone_214 (by decide) ?_
  refine lv_icmp_ne (tgt := 240) S.1 S.2.1 dL_undone_215 (by decide) (fun z9 => absurd (rfl) z9) (fun _ => ?_)
  refine lv_aload_n S.1 S.2.1 dL_undone_218 rfl (lv_at hl 5 rfl) ?_
  refine lv_iconst (v := 2) S.1 S.2.1 dL_undone_219 (by decide) ?_
  refine x_ownQ (st1 := [.int (a_keep v1 (2 : Int32))]) (x_V0 (As := [.int 2]) (rest := []) S mi_X11_keep qw1600 (k_keep l D (va_A u H.size) u α hR (by omega) (2 : Int32) hB) hK hP (wd_own hD) (hE.own hS hD hA) (hB.recv hK hP) rfl rfl hl.1 (Nat.le_of_ble_eq_true rfl) rfl rfl ⟨(Nat.le_of_ble_eq_true rfl), (Nat.le_of_ble_eq_true rfl)⟩ ⟨(Nat.le_of_ble_eq_true rfl), (Nat.le_of_ble_eq_true rfl)⟩ dL_undone_220) hS hD hA rfl (fun u H locs hq hP hD hS hkp => ?_)
  obtain ⟨hB, hsm⟩ := hq
  have hW := hkp.2 _ _ _ _ hW
  clear hkp
  have hQ := hQ.same hsm (Nat.le_refl _)
  clear hsm
  rw [(rf_14 hR).2] at hB
  rw [(rf_14 hR).1]
  refine lv_iconst (v := (-1)) S.1 S.2.1 dL_undone_223 (by decide) ?_
  refine lv_icmp_ne (tgt := 240) S.1 S.2.1 dL_undone_224 (by decide) (fun z9 => absurd (rfl) z9) (fun _ => ?_)
  refine lv_aload_n S.1 S.2.1 dL_undone_227 rfl (lv_at hl 5 rfl) ?_
  refine lv_iconst (v := (-1)) S.1 S.2.1 dL_undone_228 (by decide) ?_
  refine x_ownQ (st1 := [.int (a_restore v1 ((-1) : Int32))]) (x_V0 (As := [.int (-1)]) (rest := []) S mi_X11_restore qw1609 (k_restore l D (va_A u H.size) u α hR (by omega) ((-1) : Int32) hB) hK hP (wd_own hD) (hE.own hS hD hA) (hB.recv hK hP) rfl rfl hl.1 (Nat.le_of_ble_eq_true rfl) rfl rfl ⟨(Nat.le_of_ble_eq_true rfl), (Nat.le_of_ble_eq_true rfl)⟩ ⟨(Nat.le_of_ble_eq_true rfl), (Nat.le_of_ble_eq_true rfl)⟩ dL_undone_229) hS hD hA rfl (fun u H locs hq hP hD hS hkp => ?_)
  obtain ⟨hB, hsm⟩ := hq
  have hW := hkp.2 _ _ _ _ hW
  clear hkp
  have hQ := hQ.same hsm (Nat.le_refl _)
  clear hsm
  rw [(rf_15 hR).2] at hB
  rw [(rf_15 hR).1]
  refine lv_iconst (v := (-1)) S.1 S.2.1 dL_undone_232 (by decide) ?_
  refine lv_icmp_ne (tgt := 240) S.1 S.2.1 dL_undone_233 (by decide) (fun z9 => absurd (rfl) z9) (fun _ => ?_)
  refine lv_iconst (v := 1) S.1 S.2.1 dL_undone_236 (by decide) ?_
  refine lv_goto (tgt := 241) S.1 S.2.1 dL_undone_237 (by decide) ?_
  refine lv_istore (lv' := [(5, .int 1), (3, .int (nI (v.1 :: L).length)), (4, .int (v_day v0)), (2, .ref wa), (1, .ref qa), (0, .ref (α 0))]) S.1 S.2.1 dL_undone_241 hl (by decide) rfl (fun ls hl => ?_)
  refine W.more (cells' := 4200) (slots' := 166400) ?_ (by decide) (by decide)
  exact ud_c S hK hE hA hG hC hWL hwn hTX0 hN0 kk (L := v.1 :: L) hP hD hS hB hQ hR hW h211 hH1 hBt1 (by show N + 1 + (L.length + 1) ≤ N0 + 18; omega) (by show L.length + 1 ≤ 8; omega) (lv_sub hl [0, 2, 1, 3, 4, 5] rfl)
set_option maxHeartbeats 4000000 in
set_option maxRecDepth 100000 in
theorem ud_a (S : CallFix pg mi co cL_undone 7 s ar lw_all RL) (hK : va_K D vwCl (gTys D) s) (hE : EV D A s s.heap) (hA : ∀ q, s.heap.size ≤ q → A q) (hG : DGf A s s.heap) (hC : CN s) (hWL : BC wf wn (tolL v0 n0 n1 n2 P B)) (hwn : wn ≤ 10476) (hTX0 : TXT v0 n0 n1 n2) (hN0 : N0 ≤ 550) (kk : ∀ {u : va_W} {v : VT} {y : Int32} {N : Nat} {H : Heap} {locs : List Loc} {ls : Array Slot}, va_P D vwCl u H → va_D A u → va_S A s.heap H locs → OB D α u v → QW D 234 u qa y → RA N P B Q v → Tx (va_A u H.size) s H wa wv wn wf → v.2.1 = v0.2.1 → v.1 = v0.1 → N ≤ N0 + 18 → lv_has ls 7 [(5, .int 1), (2, .ref wa), (1, .ref qa), (0, .ref (α 0))] → W pg l en ({ frames := 12, cells := 7600, slots := 290000, locals := 380 } : Room) s mi ar below me co H locs 4200 166400 Z (F0 mi 272 ls [])) (r : Nat) {k : Nat} {L : List StT} (hP : va_P D vwCl u H) (hD : va_D A u) (hS : va_S A s.heap H locs) (hB : OB D α u v) (hQ : QW D 234 u qa y) (hR : RA N P B Q v) (hW : Tx (va_A u H.size) s H wa wv wn wf) (h21 : v.2.1 = v0.2.1) (hX : EX P v) (hk0 : v_kpF v 0 = v0.1) (hkz : ¬ v_kpZ v 0 = 0) (hH : HL v L) (hBt : BOT v L v0.1) (hLk : L.length ≤ k) (hN : N ≤ N0 + 1 + k) (hl : lv_has ls 7 [(5, .int (nI k)), (4, .int (v_day v0)), (3, .int (nI L.length)), (2, .ref wa), (1, .ref qa), (0, .ref (α 0))]) (hk : k + r = 7) : W pg l en ({ frames := 12, cells := 7600, slots := 290000, locals := 380 } : Room) s mi ar below me co H locs 2100 83200 Z (F0 mi 17 ls []) := by
  induction r generalizing k L v u y N H locs ls with
  | zero =>
    have hk : k = 7 := hk
    subst hk
    refine lv_iload S.1 S.2.1 dL_undone_17 (lv_at hl 0 rfl) ?_
    refine lv_bipush (v := 7) S.1 S.2.1 dL_undone_19 (by decide) ?_
    refine lv_icmp_ge (tgt := 46) S.1 S.2.1 dL_undone_21 (by decide) (fun _ => ?_) (fun z9 => absurd (Int32.le_refl _) z9)
    exact ud_b S hK hE hA hG hC hWL hwn hTX0 hN0 kk hP hD hS hB hQ hR hW h21 hk0 hkz hH hBt (by omega) (by omega) hl
  | succ r ih =>
    refine lv_iload S.1 S.2.1 dL_undone_17 (lv_at hl 0 rfl) ?_
    refine lv_bipush (v := 7) S.1 S.2.1 dL_undone_19 (by decide) ?_
    refine lv_icmp_ge (tgt := 46) S.1 S.2.1 dL_undone_21 (by decide) (fun z9 => absurd z9 (fun z9 => absurd ((nI_leI (a := 7) (by decide) (by omega)).mp z9) (by omega))) (fun _ => ?_)
    refine lv_iload_n S.1 S.2.1 dL_undone_24 rfl (lv_at hl 2 rfl) ?_
    refine lv_aload_n S.1 S.2.1 dL_undone_25 rfl (lv_at hl 5 rfl) ?_
    refine lv_aload_n S.1 S.2.1 dL_undone_26 rfl (lv_at hl 4 rfl) ?_
    refine x_ownG (x_St0 (As := [.ref (α 0), .ref qa]) (rest := [.int (nI L.length)]) S ms_L_acts qw1088 (l_acts l D (va_A u H.size) u α hR (by omega) (by rw [(val_2 hR).1]; exact nz_nI (by have := (val_2 hR).2; omega) (by have := (val_2 hR).2; omega)) hB hQ) hK hP (wd_own hD) (hE.own hS hD hA) rfl rfl hl.1 (Nat.le_of_ble_eq_true rfl) rfl rfl ⟨(Nat.le_of_ble_eq_true rfl), (Nat.le_of_ble_eq_true rfl)⟩ ⟨(Nat.le_of_ble_eq_true rfl), (Nat.le_of_ble_eq_true rfl)⟩ dL_undone_27) hS hD hA (fun V H locs hq hS hown => ?_)
    obtain ⟨x1, v1, u1, y1, rfl, hact, hB, hQ, hP, hD1⟩ := hq
    obtain ⟨hD, hkp⟩ := hown u1 hD1
    clear hown hD1
    have hW := hkp.2 _ _ _ _ hW
    clear hkp
    obtain ⟨hR1, hX1, e21, e22, -, hc⟩ := act_ok hR (by omega) hX hact
    have h211 := e21.trans h21
    have hk01 : v_kpF v1 0 = v0.1 := (congrArg (fun t : ((Nat → StT) × (Nat → Int32)) × ((Nat → Int32) × Int32) × Int32 => t.1.1 0) e22).trans hk0
    have hkz1 : ¬ v_kpZ v1 0 = 0 := fun z => hkz ((congrArg (fun t : ((Nat → StT) × (Nat → Int32)) × ((Nat → Int32) × Int32) × Int32 => t.1.2 0) e22).symm.trans z)
    rcases hc with ⟨c, e⟩ | ⟨c, e⟩
    · refine lv_if_lt (tgt := 37) S.1 S.2.1 dL_undone_30 (by decide) (fun _ => ?_) (fun z9 => absurd (c) z9)
      refine lv_iconst (v := 0) S.1 S.2.1 dL_undone_37 (by decide) ?_
      refine lv_iadd S.1 S.2.1 dL_undone_38 ?_
      rw [show nI L.length + (0 : Int32) = (nI L.length) from Int32.add_zero _]
      refine lv_istore_n (lv' := [(3, .int (nI L.length)), (5, .int (nI k)), (4, .int (v_day v0)), (2, .ref wa), (1, .ref qa), (0, .ref (α 0))]) S.1 S.2.1 dL_undone_39 rfl hl (by decide) rfl (fun ls hl => ?_)
      refine lv_iinc (v := (nI (k + 1))) (lv' := [(5, .int (nI (k + 1))), (3, .int (nI L.length)), (4, .int (v_day v0)), (2, .ref wa), (1, .ref qa), (0, .ref (α 0))]) S.1 S.2.1 dL_undone_40 hl (k := 1) rfl ((nI_succ k).symm) (by decide) rfl (fun ls hl => ?_)
      refine lv_goto (tgt := 17) S.1 S.2.1 dL_undone_43 (by decide) ?_
      rw [e] at hB hR1 hX1 h211 hk01 hkz1
      exact ih (k := k + 1) hP hD hS hB hQ hR1 hW h211 hX1 hk01 hkz1 hH hBt (by omega) (by omega) (lv_sub hl [0, 2, 1, 3, 4, 5] rfl) (by omega)
    · refine lv_if_lt (tgt := 37) S.1 S.2.1 dL_undone_30 (by decide) (fun z9 => absurd z9 (c)) (fun _ => ?_)
      refine lv_iconst (v := 1) S.1 S.2.1 dL_undone_33 (by decide) ?_
      refine lv_goto (tgt := 38) S.1 S.2.1 dL_undone_34 (by decide) ?_
      refine lv_iadd S.1 S.2.1 dL_undone_38 ?_
      rw [show nI L.length + (1 : Int32) = (nI (v.1 :: L).length) from nI_add L.length 1]
      refine lv_istore_n (lv' := [(3, .int (nI (v.1 :: L).length)), (5, .int (nI k)), (4, .int (v_day v0)), (2, .ref wa), (1, .ref qa), (0, .ref (α 0))]) S.1 S.2.1 dL_undone_39 rfl hl (by decide) rfl (fun ls hl => ?_)
      refine lv_iinc (v := (nI (k + 1))) (lv' := [(5, .int (nI (k + 1))), (3, .int (nI (v.1 :: L).length)), (4, .int (v_day v0)), (2, .ref wa), (1, .ref qa), (0, .ref (α 0))]) S.1 S.2.1 dL_undone_40 hl (k := 1) rfl ((nI_succ k).symm) (by decide) rfl (fun ls hl => ?_)
      refine lv_goto (tgt := 17) S.1 S.2.1 dL_undone_43 (by decide) ?_
      exact ih (k := k + 1) (L := v.1 :: L) hP hD hS hB hQ hR1 hW h211 hX1 hk01 hkz1 (hH.push e (by omega)) hBt.push (by show L.length + 1 ≤ k + 1; omega) (by omega) (lv_sub hl [0, 2, 1, 3, 4, 5] rfl) (by omega)
end UND
