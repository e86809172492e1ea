/-! THE LAW: foretold, its beginning -/
section FOB
variable {pg : Program} {l : Launch} {en : Env} {s : State} {mi : MethodId} {ar : Array Value} {below : List Frame} {me : Method} {co : Code} {Z : State → Prop} {H : Heap} {locs : List Loc} {ls : Array Slot} {D : va_G} {A : Nat → Prop} {α : Nat → Nat} {u : va_W} {v v0 : VT} {N N0 P B Q qa : Nat} {y : Int32} {wa wv wn n0 n1 n2 b d : Nat} {wf : Nat → Int32}
set_option maxHeartbeats 4000000 in
set_option maxRecDepth 100000 in
theorem fo_cl (S : CallFix pg mi co cL_foretold 19 s ar lw_all RL) (hK : va_K D vwCl (gTys D) s) (hE : EV D A s s.heap) (hA : ∀ q, s.heap.size ≤ q → A q) (hG : DGf A s s.heap) (hC : CN s) (hr : me.sig.returnType = some .boolean) (hlk : me.locks = false) (hEnd : LEnd pg l en ({ frames := 13, cells := 10600, slots := 420000, locals := 400 } : Room) s mi ar below me co (foQ D A α v0 N0 P B Q qa) A Z 10600 420000) (hWL : BC wf wn (tolL v0 n0 n1 n2 P B)) (hwn : wn ≤ 10476) (hTX0 : TXT v0 n0 n1 n2) (hN0 : N0 ≤ 500) (hX0 : EX P v0) (hR0 : RA N0 P B Q v0) (hP : va_P D vwCl u H) (hD : va_D A u) (hS : va_S A s.heap H locs) (hB : OB D α u v) (hQ : QW D 234 u qa y) (hR : RA N P B Q v) (hX : EX P v) (hW : Tx (va_A u H.size) s H wa wv wn wf) (h21 : v.2.1 = v0.2.1) (h1 : v.1 = v0.1) (hb : b < 4) (hN : N ≤ N0 + 2) (hl : lv_has ls 19 [(9, .int 1), (5, .int (nI b)), (2, .ref wa), (1, .ref qa), (0, .ref (α 0))]) : W pg l en ({ frames := 13, cells := 10600, slots := 420000, locals := 400 } : Room) s mi ar below me co H locs 2100 83200 Z (F0 mi 121 ls []) := by
  refine lv_aload_n S.1 S.2.1 dL_foretold_121 rfl (lv_at hl 4 rfl) ?_
  refine lv_bipush (v := 8) S.1 S.2.1 dL_foretold_122 (by decide) ?_
  refine x_ownQ (st1 := [.int (a_value v (8 : Int32))]) (x_V0 (As := [.int 8]) (rest := []) S mi_X11_value qw725 (k_value l D (va_A u H.size) u α hR (by omega) (8 : Int32) hB) hK hP (wd_own hD) (hE.own hS hD hA) (hB.recv hK hP) rfl rfl hl.1 (Nat.le_of_ble_eq_true rfl) rfl rfl ⟨(Nat.le_of_ble_eq_true rfl), (Nat.le_of_ble_eq_true rfl)⟩ ⟨(Nat.le_of_ble_eq_true rfl), (Nat.le_of_ble_eq_true rfl)⟩ dL_foretold_124) hS hD hA rfl (fun u H locs hq hP hD hS hkp => ?_)
  obtain ⟨hB, hsm⟩ := hq
  have hW := hkp.2 _ _ _ _ hW
  clear hkp
  have hQ := hQ.same hsm (Nat.le_refl _)
  clear hsm
  refine lv_iconst (v := 1) S.1 S.2.1 dL_foretold_127 (by decide) ?_
  refine lv_icmp_ne (tgt := 324) S.1 S.2.1 dL_foretold_128 (by decide) (fun c1 => ?_) (fun c1 => ?_)
  · refine W.more (cells' := 2100) (slots' := 83200) ?_ (by decide) (by decide)
    exact fo_rc S hK hE hA hG hC hr hlk hEnd hWL hwn hTX0 hN0 hX0 hR0 hP hD hS hB hQ hR hX hW h21 h1 (by omega) (lv_sub hl [0, 2, 3, 4] rfl)
  · obtain ⟨hcan, hcl⟩ := fo_can hR hX c1 hb
    have hlw := lacks_law hR c1
    have hl2 := lead_two hR (by omega) c1
    refine lv_iload S.1 S.2.1 dL_foretold_131 (lv_at hl 0 rfl) ?_
    refine lv_if_eq (tgt := 324) S.1 S.2.1 dL_foretold_133 (by decide) (fun z9 => absurd z9 (by decide)) (fun _ => ?_)
    refine lv_aload_n S.1 S.2.1 dL_foretold_136 rfl (lv_at hl 4 rfl) ?_
    refine x_ownQ (st1 := [.int (a_leads v)]) (x_V0 (As := []) (rest := []) S mi_X11_leads qw1373 (k_leads l D (va_A u H.size) u α hR (by omega)  hB) hK hP (wd_own hD) (hE.own hS hD hA) (hB.recv hK hP) rfl rfl hl.1 (Nat.le_of_ble_eq_true rfl) rfl rfl ⟨(Nat.le_of_ble_eq_true rfl), (Nat.le_of_ble_eq_true rfl)⟩ ⟨(Nat.le_of_ble_eq_true rfl), (Nat.le_of_ble_eq_true rfl)⟩ dL_foretold_137) hS hD hA rfl (fun u H locs hq hP hD hS hkp => ?_)
    obtain ⟨hB, hsm⟩ := hq
    have hW := hkp.2 _ _ _ _ hW
    clear hkp
    have hQ := hQ.same hsm (Nat.le_refl _)
    clear hsm
    refine lv_istore (lv' := [(10, .int (a_leads v)), (9, .int 1), (5, .int (nI b)), (2, .ref wa), (1, .ref qa), (0, .ref (α 0))]) S.1 S.2.1 dL_foretold_140 hl (by decide) rfl (fun ls hl => ?_)
    refine lv_aload_n S.1 S.2.1 dL_foretold_142 rfl (lv_at hl 5 rfl) ?_
    refine x_aftR (st1 := [.int (a_lacks v)]) (x_V0 (As := []) (rest := []) S mi_X11_lacks qw1549 (k_lacks l D (va_A u H.size) u α  hB) hK hP (wd_own hD) (hE.own hS hD hA) (hB.recv hK hP) rfl rfl hl.1 (Nat.le_of_ble_eq_true rfl) rfl rfl ⟨(Nat.le_of_ble_eq_true rfl), (Nat.le_of_ble_eq_true rfl)⟩ ⟨(Nat.le_of_ble_eq_true rfl), (Nat.le_of_ble_eq_true rfl)⟩ dL_foretold_143) hS (wa_sub hD (fun q hq => hA q (Nat.le_trans hS.1 hq))) rfl (fun locs hS => ?_)
    refine lv_istore (lv' := [(11, .int (a_lacks v)), (10, .int (a_leads v)), (9, .int 1), (5, .int (nI b)), (2, .ref wa), (1, .ref qa), (0, .ref (α 0))]) S.1 S.2.1 dL_foretold_146 hl (by decide) rfl (fun ls hl => ?_)
    refine lv_aload_n S.1 S.2.1 dL_foretold_148 rfl (lv_at hl 6 rfl) ?_
    refine lv_iload S.1 S.2.1 dL_foretold_149 (lv_at hl 3 rfl) ?_
    refine x_ownQ (st1 := [.int (a_canWin v (nI b))]) (x_V0 (As := [.int (nI b)]) (rest := []) S mi_X11_canWin qw1554 (k_canWin l D (va_A u H.size) u α hR (by omega) (nI b) hB) hK hP (wd_own hD) (hE.own hS hD hA) (hB.recv hK hP) rfl rfl hl.1 (Nat.le_of_ble_eq_true rfl) rfl rfl ⟨(Nat.le_of_ble_eq_true rfl), (Nat.le_of_ble_eq_true rfl)⟩ ⟨(Nat.le_of_ble_eq_true rfl), (Nat.le_of_ble_eq_true rfl)⟩ dL_foretold_151) hS hD hA rfl (fun u H locs hq hP hD hS hkp => ?_)
    obtain ⟨hB, hsm⟩ := hq
    have hW := hkp.2 _ _ _ _ hW
    clear hkp
    have hQ := hQ.same hsm (Nat.le_refl _)
    clear hsm
    rcases hcan with ec | ⟨ec, ec2⟩
    · rw [ec]
      refine lv_if_eq (tgt := 161) S.1 S.2.1 dL_foretold_154 (by decide) (fun _ => ?_) (fun z9 => absurd (by decide) z9)
      refine lv_iconst (v := 0) S.1 S.2.1 dL_foretold_161 (by decide) ?_
      refine lv_istore (lv' := [(12, .int 0), (11, .int (a_lacks v)), (10, .int (a_leads v)), (9, .int 1), (5, .int (nI b)), (2, .ref wa), (1, .ref qa), (0, .ref (α 0))]) S.1 S.2.1 dL_foretold_162 hl (by decide) rfl (fun ls hl => ?_)
      refine lv_iload S.1 S.2.1 dL_foretold_164 (lv_at hl 1 rfl) ?_
      refine lv_iconst (v := 0) S.1 S.2.1 dL_foretold_166 (by decide) ?_
      refine lv_aload_n S.1 S.2.1 dL_foretold_167 rfl (lv_at hl 7 rfl) ?_
      refine lv_bipush (v := 6) S.1 S.2.1 dL_foretold_168 (by decide) ?_
      refine x_ownQ (st1 := [.int (a_value v (6 : Int32)), .int 0, .int (a_lacks v)]) (x_V0 (As := [.int 6]) (rest := [.int 0, .int (a_lacks v)]) S mi_X11_value qw725 (k_value l D (va_A u H.size) u α hR (by omega) (6 : Int32) hB) hK hP (wd_own hD) (hE.own hS hD hA) (hB.recv hK hP) rfl rfl hl.1 (Nat.le_of_ble_eq_true rfl) rfl rfl ⟨(Nat.le_of_ble_eq_true rfl), (Nat.le_of_ble_eq_true rfl)⟩ ⟨(Nat.le_of_ble_eq_true rfl), (Nat.le_of_ble_eq_true rfl)⟩ dL_foretold_170) hS hD hA rfl (fun u H locs hq hP hD hS hkp => ?_)
      obtain ⟨hB, hsm⟩ := hq
      have hW := hkp.2 _ _ _ _ hW
      clear hkp
      have hQ := hQ.same hsm (Nat.le_refl _)
      clear hsm
      refine lv_aload_n S.1 S.2.1 dL_foretold_173 rfl (lv_at hl 7 rfl) ?_
      refine lv_bipush (v := 7) S.1 S.2.1 dL_foretold_174 (by decide) ?_
      refine x_ownQ (st1 := [.int (a_value v (7 : Int32)), .int (a_value v (6 : Int32)), .int 0, .int (a_lacks v)]) (x_V0 (As := [.int 7]) (rest := [.int (a_value v (6 : Int32)), .int 0, .int (a_lacks v)]) S mi_X11_value qw725 (k_value l D (va_A u H.size) u α hR (by omega) (7 : Int32) hB) hK hP (wd_own hD) (hE.own hS hD hA) (hB.recv hK hP) rfl rfl hl.1 (Nat.le_of_ble_eq_true rfl) rfl rfl ⟨(Nat.le_of_ble_eq_true rfl), (Nat.le_of_ble_eq_true rfl)⟩ ⟨(Nat.le_of_ble_eq_true rfl), (Nat.le_of_ble_eq_true rfl)⟩ dL_foretold_176) hS hD hA rfl (fun u H locs hq hP hD hS hkp => ?_)
      obtain ⟨hB, hsm⟩ := hq
      have hW := hkp.2 _ _ _ _ hW
      clear hkp
      have hQ := hQ.same hsm (Nat.le_refl _)
      clear hsm
      refine lv_isub S.1 S.2.1 dL_foretold_179 ?_
      refine va_mmax S.1 S.2.1 (S.2.2.1.trans hl.1.symm) S.2.2.2.1 (S.2.2.2.2 _ qw1360) (S.2.2.2.2 _ qw45) (S.2.2.2.2 _ qw4) (S.2.2.2.2 _ qw46) (Nat.le_of_ble_eq_true rfl) (Nat.le_of_ble_eq_true rfl) (Nat.le_of_ble_eq_true rfl) (Nat.le_of_ble_eq_true rfl) dL_foretold_180 ?_
      rw [show (if (0 : Int32) < ((a_value v (6 : Int32)) - (a_value v (7 : Int32))) then ((a_value v (6 : Int32)) - (a_value v (7 : Int32))) else (0 : Int32)) = (mx (0 : Int32) ((a_value v (6 : Int32)) - (a_value v (7 : Int32)))) from rfl]
      refine lv_icmp_ne (tgt := 280) S.1 S.2.1 dL_foretold_183 (by decide) (fun z9 => absurd (hlw) z9) (fun _ => ?_)
      refine lv_aload_n S.1 S.2.1 dL_foretold_186 rfl (lv_at hl 7 rfl) ?_
      refine x_ownQ (st1 := [.int (a_close v)]) (x_V0 (As := []) (rest := []) S mi_X11_close qw1265 (k_close l D (va_A u H.size) u α hR (by omega)  hB) hK hP (wd_own hD) (hE.own hS hD hA) (hB.recv hK hP) rfl rfl hl.1 (Nat.le_of_ble_eq_true rfl) rfl rfl ⟨(Nat.le_of_ble_eq_true rfl), (Nat.le_of_ble_eq_true rfl)⟩ ⟨(Nat.le_of_ble_eq_true rfl), (Nat.le_of_ble_eq_true rfl)⟩ dL_foretold_187) hS hD hA rfl (fun u H locs hq hP hD hS hkp => ?_)
      obtain ⟨⟨blB, blC, hB⟩, hsm⟩ := hq
      have hW := hkp.2 _ _ _ _ hW
      clear hkp
      have hQ := hQ.same hsm (Nat.le_refl _)
      clear hsm
      obtain ⟨p1, p2, p3, p4, p5⟩ := fo_close hR (by omega) hX c1 blB blC
      have sp1 := sp_close hR (by omega) hX blB blC
      have hH := step_hl sp1 p5 (HL.nil hR) (by decide)
      rw [h1] at hH
      obtain ⟨hR1, hX1, e21, -⟩ := sp1
      have h211 := e21.trans h21
      have h1v := h1
      generalize n_close v blB blC = v1 at hB hR1 hX1 h211 hH p1 p2 p3 p4
      have hR0v := hR
      have hR := hR1
      refine lv_aload_n S.1 S.2.1 dL_foretold_190 rfl (lv_at hl 7 rfl) ?_
      refine lv_bipush (v := 7) S.1 S.2.1 dL_foretold_191 (by decide) ?_
      refine x_ownQ (st1 := [.int (a_value v1 (7 : Int32)), .int (a_close v)]) (x_V0 (As := [.int 7]) (rest := [.int (a_close v)]) S mi_X11_value qw725 (k_value l D (va_A u H.size) u α hR (by omega) (7 : Int32) hB) hK hP (wd_own hD) (hE.own hS hD hA) (hB.recv hK hP) rfl rfl hl.1 (Nat.le_of_ble_eq_true rfl) rfl rfl ⟨(Nat.le_of_ble_eq_true rfl), (Nat.le_of_ble_eq_true rfl)⟩ ⟨(Nat.le_of_ble_eq_true rfl), (Nat.le_of_ble_eq_true rfl)⟩ dL_foretold_193) hS hD hA rfl (fun u H locs hq hP hD hS hkp => ?_)
      obtain ⟨hB, hsm⟩ := hq
      have hW := hkp.2 _ _ _ _ hW
      clear hkp
      have hQ := hQ.same hsm (Nat.le_refl _)
      clear hsm
      refine lv_icmp_ne (tgt := 280) S.1 S.2.1 dL_foretold_196 (by decide) (fun z9 => absurd (p1) z9) (fun _ => ?_)
      refine lv_aload_n S.1 S.2.1 dL_foretold_199 rfl (lv_at hl 7 rfl) ?_
      refine lv_bipush (v := 10) S.1 S.2.1 dL_foretold_200 (by decide) ?_
      refine x_ownQ (st1 := [.int (a_value v1 (10 : Int32))]) (x_V0 (As := [.int 10]) (rest := []) S mi_X11_value qw725 (k_value l D (va_A u H.size) u α hR (by omega) (10 : Int32) hB) hK hP (wd_own hD) (hE.own hS hD hA) (hB.recv hK hP) rfl rfl hl.1 (Nat.le_of_ble_eq_true rfl) rfl rfl ⟨(Nat.le_of_ble_eq_true rfl), (Nat.le_of_ble_eq_true rfl)⟩ ⟨(Nat.le_of_ble_eq_true rfl), (Nat.le_of_ble_eq_true rfl)⟩ dL_foretold_202) hS hD hA rfl (fun u H locs hq hP hD hS hkp => ?_)
      obtain ⟨hB, hsm⟩ := hq
      have hW := hkp.2 _ _ _ _ hW
      clear hkp
      have hQ := hQ.same hsm (Nat.le_refl _)
      clear hsm
      refine lv_iload S.1 S.2.1 dL_foretold_205 (lv_at hl 2 rfl) ?_
      refine lv_icmp_ne (tgt := 280) S.1 S.2.1 dL_foretold_207 (by decide) (fun z9 => absurd (p2) z9) (fun _ => ?_)
      refine lv_iload S.1 S.2.1 dL_foretold_210 (lv_at hl 1 rfl) ?_
      have J : ∀ {u : va_W} {H : Heap} {locs : List Loc} {ls : Array Slot}, va_P D vwCl u H → va_D A u → va_S A s.heap H locs → OB D α u v1 → QW D 234 u qa y → Tx (va_A u H.size) s H wa wv wn wf → lv_has ls 19 [(12, .int 0), (11, .int (a_lacks v)), (10, .int (a_leads v)), (9, .int 1), (5, .int (nI b)), (2, .ref wa), (1, .ref qa), (0, .ref (α 0))] → W pg l en ({ frames := 13, cells := 10600, slots := 420000, locals := 400 } : Room) s mi ar below me co H locs 2100 83200 Z (F0 mi 251 ls []) := by
        intro u H locs ls hP hD hS hB hQ hW hl
        refine lv_aload_n S.1 S.2.1 dL_foretold_251 rfl (lv_at hl 7 rfl) ?_
        refine lv_aload_n S.1 S.2.1 dL_foretold_252 rfl (lv_at hl 7 rfl) ?_
        refine lv_bipush (v := 13) S.1 S.2.1 dL_foretold_253 (by decide) ?_
        refine x_ownQ (st1 := [.int (a_value v1 (13 : Int32)), .ref (α 0)]) (x_V0 (As := [.int 13]) (rest := [.ref (α 0)]) S mi_X11_value qw725 (k_value l D (va_A u H.size) u α hR (by omega) (13 : Int32) hB) hK hP (wd_own hD) (hE.own hS hD hA) (hB.recv hK hP) rfl rfl hl.1 (Nat.le_of_ble_eq_true rfl) rfl rfl ⟨(Nat.le_of_ble_eq_true rfl), (Nat.le_of_ble_eq_true rfl)⟩ ⟨(Nat.le_of_ble_eq_true rfl), (Nat.le_of_ble_eq_true rfl)⟩ dL_foretold_255) hS hD hA rfl (fun u H locs hq hP hD hS hkp => ?_)
        obtain ⟨hB, hsm⟩ := hq
        have hW := hkp.2 _ _ _ _ hW
        clear hkp
        have hQ := hQ.same hsm (Nat.le_refl _)
        clear hsm
        refine lv_iconst (v := 1) S.1 S.2.1 dL_foretold_258 (by decide) ?_
        refine lv_isub S.1 S.2.1 dL_foretold_259 ?_
        refine lv_iconst (v := 3) S.1 S.2.1 dL_foretold_260 (by decide) ?_
        refine x_aftR (st1 := [.int (a_past v1 (a_value v1 (13 : Int32) - 1) (3 : Int32))]) (x_V0 (As := [.int (a_value v1 (13 : Int32) - 1), .int 3]) (rest := []) S mi_X11_past qw1527 (k_past l D (va_A u H.size) u α (a_value v1 (13 : Int32) - 1) (3 : Int32) hB) hK hP (wd_own hD) (hE.own hS hD hA) (hB.recv hK hP) rfl rfl hl.1 (Nat.le_of_ble_eq_true rfl) rfl rfl ⟨(Nat.le_of_ble_eq_true rfl), (Nat.le_of_ble_eq_true rfl)⟩ ⟨(Nat.le_of_ble_eq_true rfl), (Nat.le_of_ble_eq_true rfl)⟩ dL_foretold_261) hS (wa_sub hD (fun q hq => hA q (Nat.le_trans hS.1 hq))) rfl (fun locs hS => ?_)
        refine lv_iload S.1 S.2.1 dL_foretold_264 (lv_at hl 2 rfl) ?_
        refine lv_icmp_ne (tgt := 280) S.1 S.2.1 dL_foretold_266 (by decide) (fun z9 => absurd (p4) z9) (fun _ => ?_)
        refine lv_aload_n S.1 S.2.1 dL_foretold_269 rfl (lv_at hl 7 rfl) ?_
        refine x_ownQ (st1 := [.int (a_undo v1)]) (x_V0 (As := []) (rest := []) S mi_X11_undo qw1537 (k_undo l D (va_A u H.size) u α hR (by omega)  hB) hK hP (wd_own hD) (hE.own hS hD hA) (hB.recv hK hP) rfl rfl hl.1 (Nat.le_of_ble_eq_true rfl) rfl rfl ⟨(Nat.le_of_ble_eq_true rfl), (Nat.le_of_ble_eq_true rfl)⟩ ⟨(Nat.le_of_ble_eq_true rfl), (Nat.le_of_ble_eq_true rfl)⟩ dL_foretold_270) hS hD hA rfl (fun u H locs hq hP hD hS hkp => ?_)
        obtain ⟨hB, hsm⟩ := hq
        have hW := hkp.2 _ _ _ _ hW
        clear hkp
        have hQ := hQ.same hsm (Nat.le_refl _)
        clear hsm
        obtain ⟨q1, q2, q3, q4, q5⟩ := hH.pop
        have hR2 := q_undo hR (by omega)
        have h212 := q4.trans h211
        have hX2 := ex_same hX0 q2
        generalize n_undo v1 = v2 at hB hR2 h212 q2 hX2
        generalize a_undo v1 = x1 at q1 ⊢
        have hR := hR2
        obtain ⟨os1, -⟩ := obs_same (v := v) (u := v2) (q2.trans h1.symm) (h212.trans h21.symm)
        refine lv_if_lt (tgt := 280) S.1 S.2.1 dL_foretold_273 (by decide) (fun z9 => absurd z9 (q1)) (fun _ => ?_)
        refine lv_iconst (v := 1) S.1 S.2.1 dL_foretold_276 (by decide) ?_
        refine lv_goto (tgt := 281) S.1 S.2.1 dL_foretold_277 (by decide) ?_
        refine lv_istore (lv' := [(9, .int 1), (12, .int 0), (11, .int (a_lacks v)), (10, .int (a_leads v)), (5, .int (nI b)), (2, .ref wa), (1, .ref qa), (0, .ref (α 0))]) S.1 S.2.1 dL_foretold_281 hl (by decide) rfl (fun ls hl => ?_)
        refine lv_iload S.1 S.2.1 dL_foretold_283 (lv_at hl 0 rfl) ?_
        refine lv_if_eq (tgt := 321) S.1 S.2.1 dL_foretold_285 (by decide) (fun z9 => absurd z9 (by decide)) (fun _ => ?_)
        refine lv_iload S.1 S.2.1 dL_foretold_288 (lv_at hl 1 rfl) ?_
        refine lv_if_eq (tgt := 304) S.1 S.2.1 dL_foretold_290 (by decide) (fun _ => ?_) (fun z9 => absurd (rfl) z9)
        refine lv_iload S.1 S.2.1 dL_foretold_304 (lv_at hl 3 rfl) ?_
        refine lv_iload S.1 S.2.1 dL_foretold_306 (lv_at hl 4 rfl) ?_
        refine lv_icmp_ne (tgt := 317) S.1 S.2.1 dL_foretold_308 (by decide) (fun _ => ?_) (fun z9 => absurd z9 (fun z9 => absurd (ec.symm.trans (hcl z9)) (by decide)))
        refine lv_iconst (v := 1) S.1 S.2.1 dL_foretold_317 (by decide) ?_
        refine lv_goto (tgt := 322) S.1 S.2.1 dL_foretold_318 (by decide) ?_
        refine lv_istore (lv' := [(9, .int 1), (12, .int 0), (11, .int (a_lacks v)), (10, .int (a_leads v)), (5, .int (nI b)), (2, .ref wa), (1, .ref qa), (0, .ref (α 0))]) S.1 S.2.1 dL_foretold_322 hl (by decide) rfl (fun ls hl => ?_)
        refine W.more (cells' := 2100) (slots' := 83200) ?_ (by decide) (by decide)
        exact fo_rc S hK hE hA hG hC hr hlk hEnd hWL hwn hTX0 hN0 hX0 hR0 hP hD hS hB hQ hR2 hX2 hW h212 q2 (by omega) (lv_sub hl [0, 5, 6, 7] rfl)
      rcases hl2 with ⟨a0, a1⟩ | ⟨a0, a1⟩
      · refine lv_if_ne (tgt := 219) S.1 S.2.1 dL_foretold_212 (by decide) (fun z9 => absurd (a0) z9) (fun _ => ?_)
        refine lv_iconst (v := 1) S.1 S.2.1 dL_foretold_215 (by decide) ?_
        refine lv_goto (tgt := 220) S.1 S.2.1 dL_foretold_216 (by decide) ?_
        refine lv_iload S.1 S.2.1 dL_foretold_220 (lv_at hl 2 rfl) ?_
        refine lv_if_ge (tgt := 243) S.1 S.2.1 dL_foretold_222 (by decide) (fun _ => ?_) (fun z9 => absurd (Int32.not_lt.mp a1) z9)
        refine lv_iconst (v := 1) S.1 S.2.1 dL_foretold_243 (by decide) ?_
        refine lv_goto (tgt := 248) S.1 S.2.1 dL_foretold_244 (by decide) ?_
        refine lv_icmp_ne (tgt := 280) S.1 S.2.1 dL_foretold_248 (by decide) (fun z9 => absurd (rfl) z9) (fun _ => ?_)
        refine W.more (cells' := 2100) (slots' := 83200) ?_ (by decide) (by decide)
        exact J hP hD hS hB hQ hW hl
      · refine lv_if_ne (tgt := 219) S.1 S.2.1 dL_foretold_212 (by decide) (fun _ => ?_) (fun z9 => absurd z9 (a0))
        refine lv_iconst (v := 0) S.1 S.2.1 dL_foretold_219 (by decide) ?_
        refine lv_iload S.1 S.2.1 dL_foretold_220 (lv_at hl 2 rfl) ?_
        refine lv_if_ge (tgt := 243) S.1 S.2.1 dL_foretold_222 (by decide) (fun z9 => absurd z9 (Int32.not_le.mpr a1)) (fun _ => ?_)
        refine lv_aload_n S.1 S.2.1 dL_foretold_225 rfl (lv_at hl 7 rfl) ?_
        refine lv_bipush (v := 7) S.1 S.2.1 dL_foretold_226 (by decide) ?_
        refine x_ownQ (st1 := [.int (a_value v1 (7 : Int32)), .int 0]) (x_V0 (As := [.int 7]) (rest := [.int 0]) S mi_X11_value qw725 (k_value l D (va_A u H.size) u α hR (by omega) (7 : Int32) hB) hK hP (wd_own hD) (hE.own hS hD hA) (hB.recv hK hP) rfl rfl hl.1 (Nat.le_of_ble_eq_true rfl) rfl rfl ⟨(Nat.le_of_ble_eq_true rfl), (Nat.le_of_ble_eq_true rfl)⟩ ⟨(Nat.le_of_ble_eq_true rfl), (Nat.le_of_ble_eq_true rfl)⟩ dL_foretold_228) hS hD hA rfl (fun u H locs hq hP hD hS hkp => ?_)
        obtain ⟨hB, hsm⟩ := hq
        have hW := hkp.2 _ _ _ _ hW
        clear hkp
        have hQ := hQ.same hsm (Nat.le_refl _)
        clear hsm
        refine lv_if_ne (tgt := 247) S.1 S.2.1 dL_foretold_231 (by decide) (fun c8 => ?_) (fun c8 => ?_)
        · refine lv_iconst (v := 0) S.1 S.2.1 dL_foretold_247 (by decide) ?_
          refine lv_icmp_ne (tgt := 280) S.1 S.2.1 dL_foretold_248 (by decide) (fun z9 => absurd (rfl) z9) (fun _ => ?_)
          refine W.more (cells' := 2100) (slots' := 83200) ?_ (by decide) (by decide)
          exact J hP hD hS hB hQ hW hl
        · refine lv_aload_n S.1 S.2.1 dL_foretold_234 rfl (lv_at hl 7 rfl) ?_
          refine lv_bipush (v := 6) S.1 S.2.1 dL_foretold_235 (by decide) ?_
          refine x_ownQ (st1 := [.int (a_value v1 (6 : Int32)), .int 0]) (x_V0 (As := [.int 6]) (rest := [.int 0]) S mi_X11_value qw725 (k_value l D (va_A u H.size) u α hR (by omega) (6 : Int32) hB) hK hP (wd_own hD) (hE.own hS hD hA) (hB.recv hK hP) rfl rfl hl.1 (Nat.le_of_ble_eq_true rfl) rfl rfl ⟨(Nat.le_of_ble_eq_true rfl), (Nat.le_of_ble_eq_true rfl)⟩ ⟨(Nat.le_of_ble_eq_true rfl), (Nat.le_of_ble_eq_true rfl)⟩ dL_foretold_237) hS hD hA rfl (fun u H locs hq hP hD hS hkp => ?_)
          obtain ⟨hB, hsm⟩ := hq
          have hW := hkp.2 _ _ _ _ hW
          clear hkp
          have hQ := hQ.same hsm (Nat.le_refl _)
          clear hsm
          refine lv_if_ne (tgt := 247) S.1 S.2.1 dL_foretold_240 (by decide) (fun _ => ?_) (fun z9 => absurd z9 (p3))
          refine lv_iconst (v := 0) S.1 S.2.1 dL_foretold_247 (by decide) ?_
          refine lv_icmp_ne (tgt := 280) S.1 S.2.1 dL_foretold_248 (by decide) (fun z9 => absurd (rfl) z9) (fun _ => ?_)
          refine W.more (cells' := 2100) (slots' := 83200) ?_ (by decide) (by decide)
          exact J hP hD hS hB hQ hW hl
    · rw [ec]
      refine lv_if_eq (tgt := 161) S.1 S.2.1 dL_foretold_154 (by decide) (fun z9 => absurd z9 (by decide)) (fun _ => ?_)
      refine lv_iconst (v := 1) S.1 S.2.1 dL_foretold_157 (by decide) ?_
      refine lv_goto (tgt := 162) S.1 S.2.1 dL_foretold_158 (by decide) ?_
      refine lv_istore (lv' := [(12, .int 1), (11, .int (a_lacks v)), (10, .int (a_leads v)), (9, .int 1), (5, .int (nI b)), (2, .ref wa), (1, .ref qa), (0, .ref (α 0))]) S.1 S.2.1 dL_foretold_162 hl (by decide) rfl (fun ls hl => ?_)
      refine lv_iload S.1 S.2.1 dL_foretold_164 (lv_at hl 1 rfl) ?_
      refine lv_iconst (v := 0) S.1 S.2.1 dL_foretold_166 (by decide) ?_
      refine lv_aload_n S.1 S.2.1 dL_foretold_167 rfl (lv_at hl 7 rfl) ?_
      refine lv_bipush (v := 6) S.1 S.2.1 dL_foretold_168 (by decide) ?_
      refine x_ownQ (st1 := [.int (a_value v (6 : Int32)), .int 0, .int (a_lacks v)]) (x_V0 (As := [.int 6]) (rest := [.int 0, .int (a_lacks v)]) S mi_X11_value qw725 (k_value l D (va_A u H.size) u α hR (by omega) (6 : Int32) hB) hK hP (wd_own hD) (hE.own hS hD hA) (hB.recv hK hP) rfl rfl hl.1 (Nat.le_of_ble_eq_true rfl) rfl rfl ⟨(Nat.le_of_ble_eq_true rfl), (Nat.le_of_ble_eq_true rfl)⟩ ⟨(Nat.le_of_ble_eq_true rfl), (Nat.le_of_ble_eq_true rfl)⟩ dL_foretold_170) hS hD hA rfl (fun u H locs hq hP hD hS hkp => ?_)
      obtain ⟨hB, hsm⟩ := hq
      have hW := hkp.2 _ _ _ _ hW
      clear hkp
      have hQ := hQ.same hsm (Nat.le_refl _)
      clear hsm
      refine lv_aload_n S.1 S.2.1 dL_foretold_173 rfl (lv_at hl 7 rfl) ?_
      refine lv_bipush (v := 7) S.1 S.2.1 dL_foretold_174 (by decide) ?_
      refine x_ownQ (st1 := [.int (a_value v (7 : Int32)), .int (a_value v (6 : Int32)), .int 0, .int (a_lacks v)]) (x_V0 (As := [.int 7]) (rest := [.int (a_value v (6 : Int32)), .int 0, .int (a_lacks v)]) S mi_X11_value qw725 (k_value l D (va_A u H.size) u α hR (by omega) (7 : Int32) hB) hK hP (wd_own hD) (hE.own hS hD hA) (hB.recv hK hP) rfl rfl hl.1 (Nat.le_of_ble_eq_true rfl) rfl rfl ⟨(Nat.le_of_ble_eq_true rfl), (Nat.le_of_ble_eq_true rfl)⟩ ⟨(Nat.le_of_ble_eq_true rfl), (Nat.le_of_ble_eq_true rfl)⟩ dL_foretold_176) hS hD hA rfl (fun u H locs hq hP hD hS hkp => ?_)
      obtain ⟨hB, hsm⟩ := hq
      have hW := hkp.2 _ _ _ _ hW
      clear hkp
      have hQ := hQ.same hsm (Nat.le_refl _)
      clear hsm
      refine lv_isub S.1 S.2.1 dL_foretold_179 ?_
      refine va_mmax S.1 S.2.1 (S.2.2.1.trans hl.1.symm) S.2.2.2.1 (S.2.2.2.2 _ qw1360) (S.2.2.2.2 _ qw45) (S.2.2.2.2 _ qw4) (S.2.2.2.2 _ qw46) (Nat.le_of_ble_eq_true rfl) (Nat.le_of_ble_eq_true rfl) (Nat.le_of_ble_eq_true rfl) (Nat.le_of_ble_eq_true rfl) dL_foretold_180 ?_
      rw [show (if (0 : Int32) < ((a_value v (6 : Int32)) - (a_value v (7 : Int32))) then ((a_value v (6 : Int32)) - (a_value v (7 : Int32))) else (0 : Int32)) = (mx (0 : Int32) ((a_value v (6 : Int32)) - (a_value v (7 : Int32)))) from rfl]
      refine lv_icmp_ne (tgt := 280) S.1 S.2.1 dL_foretold_183 (by decide) (fun z9 => absurd (hlw) z9) (fun _ => ?_)
      refine lv_aload_n S.1 S.2.1 dL_foretold_186 rfl (lv_at hl 7 rfl) ?_
      refine x_ownQ (st1 := [.int (a_close v)]) (x_V0 (As := []) (rest := []) S mi_X11_close qw1265 (k_close l D (va_A u H.size) u α hR (by omega)  hB) hK hP (wd_own hD) (hE.own hS hD hA) (hB.recv hK hP) rfl rfl hl.1 (Nat.le_of_ble_eq_true rfl) rfl rfl ⟨(Nat.le_of_ble_eq_true rfl), (Nat.le_of_ble_eq_true rfl)⟩ ⟨(Nat.le_of_ble_eq_true rfl), (Nat.le_of_ble_eq_true rfl)⟩ dL_foretold_187) hS hD hA rfl (fun u H locs hq hP hD hS hkp => ?_)
      obtain ⟨⟨blB, blC, hB⟩, hsm⟩ := hq
      have hW := hkp.2 _ _ _ _ hW
      clear hkp
      have hQ := hQ.same hsm (Nat.le_refl _)
      clear hsm
      obtain ⟨p1, p2, p3, p4, p5⟩ := fo_close hR (by omega) hX c1 blB blC
      have sp1 := sp_close hR (by omega) hX blB blC
      have hH := step_hl sp1 p5 (HL.nil hR) (by decide)
      rw [h1] at hH
      obtain ⟨hR1, hX1, e21, -⟩ := sp1
      have h211 := e21.trans h21
      have h1v := h1
      generalize n_close v blB blC = v1 at hB hR1 hX1 h211 hH p1 p2 p3 p4
      have hR0v := hR
      have hR := hR1
      refine lv_aload_n S.1 S.2.1 dL_foretold_190 rfl (lv_at hl 7 rfl) ?_
      refine lv_bipush (v := 7) S.1 S.2.1 dL_foretold_191 (by decide) ?_
      refine x_ownQ (st1 := [.int (a_value v1 (7 : Int32)), .int (a_close v)]) (x_V0 (As := [.int 7]) (rest := [.int (a_close v)]) S mi_X11_value qw725 (k_value l D (va_A u H.size) u α hR (by omega) (7 : Int32) hB) hK hP (wd_own hD) (hE.own hS hD hA) (hB.recv hK hP) rfl rfl hl.1 (Nat.le_of_ble_eq_true rfl) rfl rfl ⟨(Nat.le_of_ble_eq_true rfl), (Nat.le_of_ble_eq_true rfl)⟩ ⟨(Nat.le_of_ble_eq_true rfl), (Nat.le_of_ble_eq_true rfl)⟩ dL_foretold_193) hS hD hA rfl (fun u H locs hq hP hD hS hkp => ?_)
      obtain ⟨hB, hsm⟩ := hq
      have hW := hkp.2 _ _ _ _ hW
      clear hkp
      have hQ := hQ.same hsm (Nat.le_refl _)
      clear hsm
      refine lv_icmp_ne (tgt := 280) S.1 S.2.1 dL_foretold_196 (by decide) (fun z9 => absurd (p1) z9) (fun _ => ?_)
      refine lv_aload_n S.1 S.2.1 dL_foretold_199 rfl (lv_at hl 7 rfl) ?_
      refine lv_bipush (v := 10) S.1 S.2.1 dL_foretold_200 (by decide) ?_
      refine x_ownQ (st1 := [.int (a_value v1 (10 : Int32))]) (x_V0 (As := [.int 10]) (rest := []) S mi_X11_value qw725 (k_value l D (va_A u H.size) u α hR (by omega) (10 : Int32) hB) hK hP (wd_own hD) (hE.own hS hD hA) (hB.recv hK hP) rfl rfl hl.1 (Nat.le_of_ble_eq_true rfl) rfl rfl ⟨(Nat.le_of_ble_eq_true rfl), (Nat.le_of_ble_eq_true rfl)⟩ ⟨(Nat.le_of_ble_eq_true rfl), (Nat.le_of_ble_eq_true rfl)⟩ dL_foretold_202) hS hD hA rfl (fun u H locs hq hP hD hS hkp => ?_)
      obtain ⟨hB, hsm⟩ := hq
      have hW := hkp.2 _ _ _ _ hW
      clear hkp
      have hQ := hQ.same hsm (Nat.le_refl _)
      clear hsm
      refine lv_iload S.1 S.2.1 dL_foretold_205 (lv_at hl 2 rfl) ?_
      refine lv_icmp_ne (tgt := 280) S.1 S.2.1 dL_foretold_207 (by decide) (fun z9 => absurd (p2) z9) (fun _ => ?_)
      refine lv_iload S.1 S.2.1 dL_foretold_210 (lv_at hl 1 rfl) ?_
      have J : ∀ {u : va_W} {H : Heap} {locs : List Loc} {ls : Array Slot}, va_P D vwCl u H → va_D A u → va_S A s.heap H locs → OB D α u v1 → QW D 234 u qa y → Tx (va_A u H.size) s H wa wv wn wf → lv_has ls 19 [(12, .int 1), (11, .int (a_lacks v)), (10, .int (a_leads v)), (9, .int 1), (5, .int (nI b)), (2, .ref wa), (1, .ref qa), (0, .ref (α 0))] → W pg l en ({ frames := 13, cells := 10600, slots := 420000, locals := 400 } : Room) s mi ar below me co H locs 2100 83200 Z (F0 mi 251 ls []) := by
        intro u H locs ls hP hD hS hB hQ hW hl
        refine lv_aload_n S.1 S.2.1 dL_foretold_251 rfl (lv_at hl 7 rfl) ?_
        refine lv_aload_n S.1 S.2.1 dL_foretold_252 rfl (lv_at hl 7 rfl) ?_
        refine lv_bipush (v := 13) S.1 S.2.1 dL_foretold_253 (by decide) ?_
        refine x_ownQ (st1 := [.int (a_value v1 (13 : Int32)), .ref (α 0)]) (x_V0 (As := [.int 13]) (rest := [.ref (α 0)]) S mi_X11_value qw725 (k_value l D (va_A u H.size) u α hR (by omega) (13 : Int32) hB) hK hP (wd_own hD) (hE.own hS hD hA) (hB.recv hK hP) rfl rfl hl.1 (Nat.le_of_ble_eq_true rfl) rfl rfl ⟨(Nat.le_of_ble_eq_true rfl), (Nat.le_of_ble_eq_true rfl)⟩ ⟨(Nat.le_of_ble_eq_true rfl), (Nat.le_of_ble_eq_true rfl)⟩ dL_foretold_255) hS hD hA rfl (fun u H locs hq hP hD hS hkp => ?_)
        obtain ⟨hB, hsm⟩ := hq
        have hW := hkp.2 _ _ _ _ hW
        clear hkp
        have hQ := hQ.same hsm (Nat.le_refl _)
        clear hsm
        refine lv_iconst (v := 1) S.1 S.2.1 dL_foretold_258 (by decide) ?_
        refine lv_isub S.1 S.2.1 dL_foretold_259 ?_
        refine lv_iconst (v := 3) S.1 S.2.1 dL_foretold_260 (by decide) ?_
        refine x_aftR (st1 := [.int (a_past v1 (a_value v1 (13 : Int32) - 1) (3 : Int32))]) (x_V0 (As := [.int (a_value v1 (13 : Int32) - 1), .int 3]) (rest := []) S mi_X11_past qw1527 (k_past l D (va_A u H.size) u α (a_value v1 (13 : Int32) - 1) (3 : Int32) hB) hK hP (wd_own hD) (hE.own hS hD hA) (hB.recv hK hP) rfl rfl hl.1 (Nat.le_of_ble_eq_true rfl) rfl rfl ⟨(Nat.le_of_ble_eq_true rfl), (Nat.le_of_ble_eq_true rfl)⟩ ⟨(Nat.le_of_ble_eq_true rfl), (Nat.le_of_ble_eq_true rfl)⟩ dL_foretold_261) hS (wa_sub hD (fun q hq => hA q (Nat.le_trans hS.1 hq))) rfl (fun locs hS => ?_)
        refine lv_iload S.1 S.2.1 dL_foretold_264 (lv_at hl 2 rfl) ?_
        refine lv_icmp_ne (tgt := 280) S.1 S.2.1 dL_foretold_266 (by decide) (fun z9 => absurd (p4) z9) (fun _ => ?_)
        refine lv_aload_n S.1 S.2.1 dL_foretold_269 rfl (lv_at hl 7 rfl) ?_
        refine x_ownQ (st1 := [.int (a_undo v1)]) (x_V0 (As := []) (rest := []) S mi_X11_undo qw1537 (k_undo l D (va_A u H.size) u α hR (by omega)  hB) hK hP (wd_own hD) (hE.own hS hD hA) (hB.recv hK hP) rfl rfl hl.1 (Nat.le_of_ble_eq_true rfl) rfl rfl ⟨(Nat.le_of_ble_eq_true rfl), (Nat.le_of_ble_eq_true rfl)⟩ ⟨(Nat.le_of_ble_eq_true rfl), (Nat.le_of_ble_eq_true rfl)⟩ dL_foretold_270) hS hD hA rfl (fun u H locs hq hP hD hS hkp => ?_)
        obtain ⟨hB, hsm⟩ := hq
        have hW := hkp.2 _ _ _ _ hW
        clear hkp
        have hQ := hQ.same hsm (Nat.le_refl _)
        clear hsm
        obtain ⟨q1, q2, q3, q4, q5⟩ := hH.pop
        have hR2 := q_undo hR (by omega)
        have h212 := q4.trans h211
        have hX2 := ex_same hX0 q2
        generalize n_undo v1 = v2 at hB hR2 h212 q2 hX2
        generalize a_undo v1 = x1 at q1 ⊢
        have hR := hR2
        obtain ⟨os1, -⟩ := obs_same (v := v) (u := v2) (q2.trans h1.symm) (h212.trans h21.symm)
        refine lv_if_lt (tgt := 280) S.1 S.2.1 dL_foretold_273 (by decide) (fun z9 => absurd z9 (q1)) (fun _ => ?_)
        refine lv_iconst (v := 1) S.1 S.2.1 dL_foretold_276 (by decide) ?_
        refine lv_goto (tgt := 281) S.1 S.2.1 dL_foretold_277 (by decide) ?_
        refine lv_istore (lv' := [(9, .int 1), (12, .int 1), (11, .int (a_lacks v)), (10, .int (a_leads v)), (5, .int (nI b)), (2, .ref wa), (1, .ref qa), (0, .ref (α 0))]) S.1 S.2.1 dL_foretold_281 hl (by decide) rfl (fun ls hl => ?_)
        refine lv_iload S.1 S.2.1 dL_foretold_283 (lv_at hl 0 rfl) ?_
        refine lv_if_eq (tgt := 321) S.1 S.2.1 dL_foretold_285 (by decide) (fun z9 => absurd z9 (by decide)) (fun _ => ?_)
        refine lv_iload S.1 S.2.1 dL_foretold_288 (lv_at hl 1 rfl) ?_
        refine lv_if_eq (tgt := 304) S.1 S.2.1 dL_foretold_290 (by decide) (fun z9 => absurd z9 (by decide)) (fun _ => ?_)
        refine lv_iload S.1 S.2.1 dL_foretold_293 (lv_at hl 4 rfl) ?_
        refine lv_aload_n S.1 S.2.1 dL_foretold_295 rfl (lv_at hl 7 rfl) ?_
        refine lv_bipush (v := 9) S.1 S.2.1 dL_foretold_296 (by decide) ?_
        refine x_ownQ (st1 := [.int (a_value v2 (9 : Int32)), .int (nI b)]) (x_V0 (As := [.int 9]) (rest := [.int (nI b)]) S mi_X11_value qw725 (k_value l D (va_A u H.size) u α hR (by omega) (9 : Int32) hB) hK hP (wd_own hD) (hE.own hS hD hA) (hB.recv hK hP) rfl rfl hl.1 (Nat.le_of_ble_eq_true rfl) rfl rfl ⟨(Nat.le_of_ble_eq_true rfl), (Nat.le_of_ble_eq_true rfl)⟩ ⟨(Nat.le_of_ble_eq_true rfl), (Nat.le_of_ble_eq_true rfl)⟩ dL_foretold_298) hS hD hA rfl (fun u H locs hq hP hD hS hkp => ?_)
        obtain ⟨hB, hsm⟩ := hq
        have hW := hkp.2 _ _ _ _ hW
        clear hkp
        have hQ := hQ.same hsm (Nat.le_refl _)
        clear hsm
        rw [show (a_value v2 (9 : Int32)) = (a_value v 9) from os1 9]
        refine lv_icmp_ge (tgt := 321) S.1 S.2.1 dL_foretold_301 (by decide) (fun z9 => absurd z9 (Int32.not_le.mpr ec2)) (fun _ => ?_)
        refine lv_iload S.1 S.2.1 dL_foretold_304 (lv_at hl 3 rfl) ?_
        refine lv_iload S.1 S.2.1 dL_foretold_306 (lv_at hl 4 rfl) ?_
        refine lv_icmp_ne (tgt := 317) S.1 S.2.1 dL_foretold_308 (by decide) (fun c7 => ?_) (fun c7 => ?_)
        · refine lv_iconst (v := 1) S.1 S.2.1 dL_foretold_317 (by decide) ?_
          refine lv_goto (tgt := 322) S.1 S.2.1 dL_foretold_318 (by decide) ?_
          refine lv_istore (lv' := [(9, .int 1), (12, .int 1), (11, .int (a_lacks v)), (10, .int (a_leads v)), (5, .int (nI b)), (2, .ref wa), (1, .ref qa), (0, .ref (α 0))]) S.1 S.2.1 dL_foretold_322 hl (by decide) rfl (fun ls hl => ?_)
          refine W.more (cells' := 2100) (slots' := 83200) ?_ (by decide) (by decide)
          exact fo_rc S hK hE hA hG hC hr hlk hEnd hWL hwn hTX0 hN0 hX0 hR0 hP hD hS hB hQ hR2 hX2 hW h212 q2 (by omega) (lv_sub hl [0, 5, 6, 7] rfl)
        · refine lv_iload S.1 S.2.1 dL_foretold_311 (lv_at hl 1 rfl) ?_
          refine lv_iconst (v := 1) S.1 S.2.1 dL_foretold_313 (by decide) ?_
          refine lv_icmp_ne (tgt := 321) S.1 S.2.1 dL_foretold_314 (by decide) (fun z9 => absurd (rfl) z9) (fun _ => ?_)
          refine lv_iconst (v := 1) S.1 S.2.1 dL_foretold_317 (by decide) ?_
          refine lv_goto (tgt := 322) S.1 S.2.1 dL_foretold_318 (by decide) ?_
          refine lv_istore (lv' := [(9, .int 1), (12, .int 1), (11, .int (a_lacks v)), (10, .int (a_leads v)), (5, .int (nI b)), (2, .ref wa), (1, .ref qa), (0, .ref (α 0))]) S.1 S.2.1 dL_foretold_322 hl (by decide) rfl (fun ls hl => ?_)
          refine W.more (cells' := 2100) (slots' := 83200) ?_ (by decide) (by decide)
          exact fo_rc S hK hE hA hG hC hr hlk hEnd hWL hwn hTX0 hN0 hX0 hR0 hP hD hS hB hQ hR2 hX2 hW h212 q2 (by omega) (lv_sub hl [0, 5, 6, 7] rfl)
      rcases hl2 with ⟨a0, a1⟩ | ⟨a0, a1⟩
      · refine lv_if_ne (tgt := 219) S.1 S.2.1 dL_foretold_212 (by decide) (fun z9 => absurd (a0) z9) (fun _ => ?_)
        refine lv_iconst (v := 1) S.1 S.2.1 dL_foretold_215 (by decide) ?_
        refine lv_goto (tgt := 220) S.1 S.2.1 dL_foretold_216 (by decide) ?_
        refine lv_iload S.1 S.2.1 dL_foretold_220 (lv_at hl 2 rfl) ?_
        refine lv_if_ge (tgt := 243) S.1 S.2.1 dL_foretold_222 (by decide) (fun _ => ?_) (fun z9 => absurd (Int32.not_lt.mp a1) z9)
        refine lv_iconst (v := 1) S.1 S.2.1 dL_foretold_243 (by decide) ?_
        refine lv_goto (tgt := 248) S.1 S.2.1 dL_foretold_244 (by decide) ?_
        refine lv_icmp_ne (tgt := 280) S.1 S.2.1 dL_foretold_248 (by decide) (fun z9 => absurd (rfl) z9) (fun _ => ?_)
        refine W.more (cells' := 2100) (slots' := 83200) ?_ (by decide) (by decide)
        exact J hP hD hS hB hQ hW hl
      · refine lv_if_ne (tgt := 219) S.1 S.2.1 dL_foretold_212 (by decide) (fun _ => ?_) (fun z9 => absurd z9 (a0))
        refine lv_iconst (v := 0) S.1 S.2.1 dL_foretold_219 (by decide) ?_
        refine lv_iload S.1 S.2.1 dL_foretold_220 (lv_at hl 2 rfl) ?_
        refine lv_if_ge (tgt := 243) S.1 S.2.1 dL_foretold_222 (by decide) (fun z9 => absurd z9 (Int32.not_le.mpr a1)) (fun _ => ?_)
        refine lv_aload_n S.1 S.2.1 dL_foretold_225 rfl (lv_at hl 7 rfl) ?_
        refine lv_bipush (v := 7) S.1 S.2.1 dL_foretold_226 (by decide) ?_
        refine x_ownQ (st1 := [.int (a_value v1 (7 : Int32)), .int 0]) (x_V0 (As := [.int 7]) (rest := [.int 0]) S mi_X11_value qw725 (k_value l D (va_A u H.size) u α hR (by omega) (7 : Int32) hB) hK hP (wd_own hD) (hE.own hS hD hA) (hB.recv hK hP) rfl rfl hl.1 (Nat.le_of_ble_eq_true rfl) rfl rfl ⟨(Nat.le_of_ble_eq_true rfl), (Nat.le_of_ble_eq_true rfl)⟩ ⟨(Nat.le_of_ble_eq_true rfl), (Nat.le_of_ble_eq_true rfl)⟩ dL_foretold_228) hS hD hA rfl (fun u H locs hq hP hD hS hkp => ?_)
        obtain ⟨hB, hsm⟩ := hq
        have hW := hkp.2 _ _ _ _ hW
        clear hkp
        have hQ := hQ.same hsm (Nat.le_refl _)
        clear hsm
        refine lv_if_ne (tgt := 247) S.1 S.2.1 dL_foretold_231 (by decide) (fun c8 => ?_) (fun c8 => ?_)
        · refine lv_iconst (v := 0) S.1 S.2.1 dL_foretold_247 (by decide) ?_
          refine lv_icmp_ne (tgt := 280) S.1 S.2.1 dL_foretold_248 (by decide) (fun z9 => absurd (rfl) z9) (fun _ => ?_)
          refine W.more (cells' := 2100) (slots' := 83200) ?_ (by decide) (by decide)
          exact J hP hD hS hB hQ hW hl
        · refine lv_aload_n S.1 S.2.1 dL_foretold_234 rfl (lv_at hl 7 rfl) ?_
          refine lv_bipush (v := 6) S.1 S.2.1 dL_foretold_235 (by decide) ?_
          refine x_ownQ (st1 := [.int (a_value v1 (6 : Int32)), .int 0]) (x_V0 (As := [.int 6]) (rest := [.int 0]) S mi_X11_value qw725 (k_value l D (va_A u H.size) u α hR (by omega) (6 : Int32) hB) hK hP (wd_own hD) (hE.own hS hD hA) (hB.recv hK hP) rfl rfl hl.1 (Nat.le_of_ble_eq_true rfl) rfl rfl ⟨(Nat.le_of_ble_eq_true rfl), (Nat.le_of_ble_eq_true rfl)⟩ ⟨(Nat.le_of_ble_eq_true rfl), (Nat.le_of_ble_eq_true rfl)⟩ dL_foretold_237) hS hD hA rfl (fun u H locs hq hP hD hS hkp => ?_)
          obtain ⟨hB, hsm⟩ := hq
          have hW := hkp.2 _ _ _ _ hW
          clear hkp
          have hQ := hQ.same hsm (Nat.le_refl _)
          clear hsm
          refine lv_if_ne (tgt := 247) S.1 S.2.1 dL_foretold_240 (by decide) (fun _ => ?_) (fun z9 => absurd z9 (p3))
          refine lv_iconst (v := 0) S.1 S.2.1 dL_foretold_247 (by decide) ?_
          refine lv_icmp_ne (tgt := 280) S.1 S.2.1 dL_foretold_248 (by decide) (fun z9 => absurd (rfl) z9) (fun _ => ?_)
          refine W.more (cells' := 2100) (slots' := 83200) ?_ (by decide) (by decide)
          exact J hP hD hS hB hQ hW hl
end FOB
theorem bask_le (v : VT) {b : Nat} (hb : b < 4) : ∃ k, a_basket v (nI b) = nI k ∧ k ≤ 20 := ⟨_, ba_n v hb, cntB_le _ _⟩
theorem lay_nn {la bk : Int32} (h : la = bk + 1) (hb : ∃ k, bk = nI k ∧ k ≤ 20) : ¬ la < 0 := by
  obtain ⟨k, e, hk⟩ := hb
  rw [h, e, nI_1]
  exact nI_pos (by omega)
set_option maxHeartbeats 4000000 in
set_option maxRecDepth 100000 in
theorem l_foretold (l : Launch) (D : va_G) (A : Nat → Prop) (w : va_W) (α : Nat → Nat) {N0 P B Q qa nH : Nat} {y : Int32} {v : VT} (hR : RA N0 P B Q v) (hN0 : N0 ≤ 500) (hX : EX P v) (hB : OB D α w v) (hQ : QW D 234 w qa y) (hA : ∀ q, nH ≤ q → A q) : MetD lw_cs l yL_foretold (ws_ yL_foretold cL_foretold 19 (Option.some Jvm.ClassFile.FieldType.boolean)) ({ frames := 13, cells := 10600, slots := 420000, locals := 400 } : Room) (gPx D A [.ref (α 0), .ref qa] w (fun U H => nH ≤ H.size ∧ (CN U ∧ DGf A U H))) (foQ D A α v N0 P B Q qa) 10600 420000 A := by
  refine g_metDX [(0, .ref (α 0)), (1, .ref qa)] (by decide +kernel) (Nat.le_of_ble_eq_true rfl) rfl (fun pg en s mi ar below me co ls Z hEnd S hK hP hD hE hS hx hr hlk hnm hl => ?_)
  have hA : ∀ q, s.heap.size ≤ q → A q := fun q hq => hA q (Nat.le_trans hx.1 hq)
  have hC := hx.2.1
  have hG := hx.2.2
  obtain ⟨n0, n1, n2, hTX⟩ := TXT_of hR (by omega)
  obtain ⟨u, hue⟩ : ∃ u, u = w := ⟨_, rfl⟩
  rw [← hue] at hP hD hB hQ
  clear hue
  obtain ⟨hvP, hP2, hP20⟩ := val_2 hR
  refine lv_aload_n S.1 S.2.1 dL_foretold_0 rfl (lv_at hl 0 rfl) ?_
  refine x_ownG (x_St (As := [.ref (α 0)]) (rest := []) S ms_L_told qw1398 (l_told l D (va_A u s.heap.size) u α hR (by omega) hB (by have h9 := hQ.len; omega) (nH := s.heap.size) (fun q hq => .inr hq) hTX (val_2 hR).1 (val_2 hR).2.2 (val_3 hR).1 (val_3 hR).2) (stX_and stX_sz (stX_and stX_cn stX_dg)) hK hP (wd_own hD) (hE.own hS hD hA) ⟨Nat.le_refl _, hC, hG.own hS hD hA⟩ rfl rfl hl.1 (Nat.le_of_ble_eq_true rfl) rfl rfl ⟨(Nat.le_of_ble_eq_true rfl), (Nat.le_of_ble_eq_true rfl)⟩ ⟨(Nat.le_of_ble_eq_true rfl), (Nat.le_of_ble_eq_true rfl)⟩ dL_foretold_1) hS hD hA (fun V H locs hq hS hown => ?_)
  obtain ⟨aw, xw, kw, fw, u1, rfl, hLw, hnw, hu1, hB, hsm, hP, hD1⟩ := hq
  have hTw := st_own S.2.2.2.2 hK hP hD1
  have hP := wp_left hP
  obtain ⟨hD, hkp⟩ := hown u1 (wd_left hD1)
  clear hown hD1 hu1
  clear hkp
  have hQ := hQ.same hsm (Nat.le_refl _)
  clear hsm
  obtain ⟨u, hue⟩ : ∃ u, u = u1 := ⟨_, rfl⟩
  rw [← hue] at hP hD hB hQ  hTw
  clear hue
  refine lv_astore_n (lv' := [(2, .ref aw), (0, .ref (α 0)), (1, .ref qa)]) S.1 S.2.1 dL_foretold_4 rfl hl (by decide) rfl (fun ls hl => ?_)
  refine lv_aload_n S.1 S.2.1 dL_foretold_5 rfl (lv_at hl 2 rfl) ?_
  refine x_ownQ (st1 := [.int (drw (dnx y))]) (x_St0 (As := [.ref qa]) (rest := []) S ms_L_draw qw972 (l_drawS l D (va_A u H.size) u hQ) hK hP (wd_own hD) (hE.own hS hD hA) rfl rfl hl.1 (Nat.le_of_ble_eq_true rfl) rfl rfl ⟨(Nat.le_of_ble_eq_true rfl), (Nat.le_of_ble_eq_true rfl)⟩ ⟨(Nat.le_of_ble_eq_true rfl), (Nat.le_of_ble_eq_true rfl)⟩ dL_foretold_6) hS hD hA rfl (fun u H locs hq hP hD hS hkp => ?_)
  obtain ⟨hQ, hsm⟩ := hq
  have hB := hB.agree (fun j hj => hsm.2 j (.inl hj))
  clear hsm
  have hTw := hkp.2 _ _ _ _ hTw
  clear hkp
  obtain ⟨d1, hd1, ed1⟩ := drw_at (dnx y)
  rw [ed1]
  clear ed1
  generalize dnx y = y at hQ
  refine lv_aload_n S.1 S.2.1 dL_foretold_9 rfl (lv_at hl 1 rfl) ?_
  refine lv_iconst (v := 2) S.1 S.2.1 dL_foretold_10 (by decide) ?_
  refine x_ownQ (st1 := [.int (a_value v (2 : Int32)), .int (nI d1)]) (x_V0 (As := [.int 2]) (rest := [.int (nI d1)]) S mi_X11_value qw725 (k_value l D (va_A u H.size) u α hR (by omega) (2 : Int32) hB) hK hP (wd_own hD) (hE.own hS hD hA) (hB.recv hK hP) rfl rfl hl.1 (Nat.le_of_ble_eq_true rfl) rfl rfl ⟨(Nat.le_of_ble_eq_true rfl), (Nat.le_of_ble_eq_true rfl)⟩ ⟨(Nat.le_of_ble_eq_true rfl), (Nat.le_of_ble_eq_true rfl)⟩ dL_foretold_11) hS hD hA rfl (fun u H locs hq hP hD hS hkp => ?_)
  obtain ⟨hB, hsm⟩ := hq
  have hTw := hkp.2 _ _ _ _ hTw
  clear hkp
  have hQ := hQ.same hsm (Nat.le_refl _)
  clear hsm
  rw [show (a_value v (2 : Int32)) = (nI P) from hvP]
  refine lv_irem S.1 S.2.1 dL_foretold_14 (nz_nI (by omega) (by omega)) ?_
  rw [show nI d1 - nI d1 / (nI P) * (nI P) = nI (d1 % P) from pk_rem (d := P) (by omega) (by omega) (by omega)]
  refine lv_istore_n (lv' := [(3, .int (nI (d1 % P))), (2, .ref aw), (0, .ref (α 0)), (1, .ref qa)]) S.1 S.2.1 dL_foretold_15 rfl hl (by decide) rfl (fun ls hl => ?_)
  refine lv_aload_n S.1 S.2.1 dL_foretold_16 rfl (lv_at hl 3 rfl) ?_
  refine x_ownQ (st1 := [.int (drw (dnx y))]) (x_St0 (As := [.ref qa]) (rest := []) S ms_L_draw qw972 (l_drawS l D (va_A u H.size) u hQ) hK hP (wd_own hD) (hE.own hS hD hA) rfl rfl hl.1 (Nat.le_of_ble_eq_true rfl) rfl rfl ⟨(Nat.le_of_ble_eq_true rfl), (Nat.le_of_ble_eq_true rfl)⟩ ⟨(Nat.le_of_ble_eq_true rfl), (Nat.le_of_ble_eq_true rfl)⟩ dL_foretold_17) hS hD hA rfl (fun u H locs hq hP hD hS hkp => ?_)
  obtain ⟨hQ, hsm⟩ := hq
  have hB := hB.agree (fun j hj => hsm.2 j (.inl hj))
  clear hsm
  have hTw := hkp.2 _ _ _ _ hTw
  clear hkp
  obtain ⟨d2, hd2, ed2⟩ := drw_at (dnx y)
  rw [ed2]
  clear ed2
  generalize dnx y = y at hQ
  refine lv_aload_n S.1 S.2.1 dL_foretold_20 rfl (lv_at hl 2 rfl) ?_
  refine lv_iconst (v := 2) S.1 S.2.1 dL_foretold_21 (by decide) ?_
  refine x_ownQ (st1 := [.int (a_value v (2 : Int32)), .int (nI d2)]) (x_V0 (As := [.int 2]) (rest := [.int (nI d2)]) S mi_X11_value qw725 (k_value l D (va_A u H.size) u α hR (by omega) (2 : Int32) hB) hK hP (wd_own hD) (hE.own hS hD hA) (hB.recv hK hP) rfl rfl hl.1 (Nat.le_of_ble_eq_true rfl) rfl rfl ⟨(Nat.le_of_ble_eq_true rfl), (Nat.le_of_ble_eq_true rfl)⟩ ⟨(Nat.le_of_ble_eq_true rfl), (Nat.le_of_ble_eq_true rfl)⟩ dL_foretold_22) hS hD hA rfl (fun u H locs hq hP hD hS hkp => ?_)
  obtain ⟨hB, hsm⟩ := hq
  have hTw := hkp.2 _ _ _ _ hTw
  clear hkp
  have hQ := hQ.same hsm (Nat.le_refl _)
  clear hsm
  rw [show (a_value v (2 : Int32)) = (nI P) from hvP]
  refine lv_irem S.1 S.2.1 dL_foretold_25 (nz_nI (by omega) (by omega)) ?_
  rw [show nI d2 - nI d2 / (nI P) * (nI P) = nI (d2 % P) from pk_rem (d := P) (by omega) (by omega) (by omega)]
  refine lv_istore (lv' := [(4, .int (nI (d2 % P))), (3, .int (nI (d1 % P))), (2, .ref aw), (0, .ref (α 0)), (1, .ref qa)]) S.1 S.2.1 dL_foretold_26 hl (by decide) rfl (fun ls hl => ?_)
  refine lv_aload_n S.1 S.2.1 dL_foretold_28 rfl (lv_at hl 4 rfl) ?_
  refine x_ownQ (st1 := [.int (drw (dnx y))]) (x_St0 (As := [.ref qa]) (rest := []) S ms_L_draw qw972 (l_drawS l D (va_A u H.size) u hQ) hK hP (wd_own hD) (hE.own hS hD hA) rfl rfl hl.1 (Nat.le_of_ble_eq_true rfl) rfl rfl ⟨(Nat.le_of_ble_eq_true rfl), (Nat.le_of_ble_eq_true rfl)⟩ ⟨(Nat.le_of_ble_eq_true rfl), (Nat.le_of_ble_eq_true rfl)⟩ dL_foretold_29) hS hD hA rfl (fun u H locs hq hP hD hS hkp => ?_)
  obtain ⟨hQ, hsm⟩ := hq
  have hB := hB.agree (fun j hj => hsm.2 j (.inl hj))
  clear hsm
  have hTw := hkp.2 _ _ _ _ hTw
  clear hkp
  obtain ⟨d3, hd3, ed3⟩ := drw_at (dnx y)
  rw [ed3]
  clear ed3
  generalize dnx y = y at hQ
  refine lv_iconst (v := 4) S.1 S.2.1 dL_foretold_32 (by decide) ?_
  refine lv_irem S.1 S.2.1 dL_foretold_33 (by decide) ?_
  rw [show nI d3 - nI d3 / 4 * 4 = nI (d3 % 4) from pk_rem (d := 4) (by omega) (by omega) (by omega)]
  refine lv_istore (lv' := [(5, .int (nI (d3 % 4))), (4, .int (nI (d2 % P))), (3, .int (nI (d1 % P))), (2, .ref aw), (0, .ref (α 0)), (1, .ref qa)]) S.1 S.2.1 dL_foretold_34 hl (by decide) rfl (fun ls hl => ?_)
  obtain ⟨p, hp⟩ : ∃ z, z = d1 % P := ⟨_, rfl⟩
  rw [← hp] at hl
  have bp : p < P := by rw [hp]; exact Nat.mod_lt _ (by omega)
  clear hp
  obtain ⟨o, ho⟩ : ∃ z, z = d2 % P := ⟨_, rfl⟩
  rw [← ho] at hl
  have bo : o < P := by rw [ho]; exact Nat.mod_lt _ (by omega)
  clear ho
  obtain ⟨b, hb⟩ : ∃ z, z = d3 % 4 := ⟨_, rfl⟩
  rw [← hb] at hl
  have bb : b < 4 := by rw [hb]; exact Nat.mod_lt _ (by omega)
  clear hb
  refine lv_aload_n S.1 S.2.1 dL_foretold_36 rfl (lv_at hl 4 rfl) ?_
  refine lv_iload_n S.1 S.2.1 dL_foretold_37 rfl (lv_at hl 2 rfl) ?_
  refine lv_iload S.1 S.2.1 dL_foretold_38 (lv_at hl 1 rfl) ?_
  refine lv_iload S.1 S.2.1 dL_foretold_40 (lv_at hl 0 rfl) ?_
  refine x_aftR (st1 := [.int (a_why v (nI p) (nI o) (nI b))]) (x_V0 (As := [.int (nI p), .int (nI o), .int (nI b)]) (rest := []) S mi_X11_why qw1532 (k_why l D (va_A u H.size) u α (nI p) (nI o) (nI b) hB) hK hP (wd_own hD) (hE.own hS hD hA) (hB.recv hK hP) rfl rfl hl.1 (Nat.le_of_ble_eq_true rfl) rfl rfl ⟨(Nat.le_of_ble_eq_true rfl), (Nat.le_of_ble_eq_true rfl)⟩ ⟨(Nat.le_of_ble_eq_true rfl), (Nat.le_of_ble_eq_true rfl)⟩ dL_foretold_42) hS (wa_sub hD (fun q hq => hA q (Nat.le_trans hS.1 hq))) rfl (fun locs hS => ?_)
  refine lv_istore (lv' := [(6, .int (a_why v (nI p) (nI o) (nI b))), (5, .int (nI b)), (4, .int (nI o)), (3, .int (nI p)), (2, .ref aw), (0, .ref (α 0)), (1, .ref qa)]) S.1 S.2.1 dL_foretold_45 hl (by decide) rfl (fun ls hl => ?_)
  refine lv_aload_n S.1 S.2.1 dL_foretold_47 rfl (lv_at hl 5 rfl) ?_
  refine lv_iload S.1 S.2.1 dL_foretold_48 (lv_at hl 1 rfl) ?_
  refine x_aftR (st1 := [.int (a_basket v (nI b))]) (x_V0 (As := [.int (nI b)]) (rest := []) S mi_X11_basket qw1346 (k_basket l D (va_A u H.size) u α (nI b) hB) hK hP (wd_own hD) (hE.own hS hD hA) (hB.recv hK hP) rfl rfl hl.1 (Nat.le_of_ble_eq_true rfl) rfl rfl ⟨(Nat.le_of_ble_eq_true rfl), (Nat.le_of_ble_eq_true rfl)⟩ ⟨(Nat.le_of_ble_eq_true rfl), (Nat.le_of_ble_eq_true rfl)⟩ dL_foretold_50) hS (wa_sub hD (fun q hq => hA q (Nat.le_trans hS.1 hq))) rfl (fun locs hS => ?_)
  refine lv_istore (lv' := [(7, .int (a_basket v (nI b))), (6, .int (a_why v (nI p) (nI o) (nI b))), (5, .int (nI b)), (4, .int (nI o)), (3, .int (nI p)), (2, .ref aw), (0, .ref (α 0)), (1, .ref qa)]) S.1 S.2.1 dL_foretold_53 hl (by decide) rfl (fun ls hl => ?_)
  refine lv_aload_n S.1 S.2.1 dL_foretold_55 rfl (lv_at hl 6 rfl) ?_
  refine lv_iload_n S.1 S.2.1 dL_foretold_56 rfl (lv_at hl 4 rfl) ?_
  refine lv_iload S.1 S.2.1 dL_foretold_57 (lv_at hl 3 rfl) ?_
  refine lv_iload S.1 S.2.1 dL_foretold_59 (lv_at hl 2 rfl) ?_
  refine x_ownQ (st1 := [.int (a_lay v (nI p) (nI o) (nI b))]) (x_V0 (As := [.int (nI p), .int (nI o), .int (nI b)]) (rest := []) S mi_X11_lay qw1170 (k_lay l D (va_A u H.size) u α hR (by omega) (nI p) (nI o) (nI b) hB) hK hP (wd_own hD) (hE.own hS hD hA) (hB.recv hK hP) rfl rfl hl.1 (Nat.le_of_ble_eq_true rfl) rfl rfl ⟨(Nat.le_of_ble_eq_true rfl), (Nat.le_of_ble_eq_true rfl)⟩ ⟨(Nat.le_of_ble_eq_true rfl), (Nat.le_of_ble_eq_true rfl)⟩ dL_foretold_61) hS hD hA rfl (fun u H locs hq hP hD hS hkp => ?_)
  obtain ⟨hB, hsm⟩ := hq
  have hTw := hkp.2 _ _ _ _ hTw
  clear hkp
  have hQ := hQ.same hsm (Nat.le_refl _)
  clear hsm
  have fl := fo_lay hR (by omega) hX bp bo bb
  have sp1 := sp_lay hR (by omega) hX (nI p) (nI o) (nI b)
  generalize a_why v (nI p) (nI o) (nI b) = wy at fl hl
  have hbk : ∃ k, a_basket v (nI b) = nI k ∧ k ≤ 20 := bask_le v bb
  generalize a_basket v (nI b) = bk at fl hl hbk
  generalize a_lay v (nI p) (nI o) (nI b) = la at fl sp1 ⊢
  generalize n_lay v (nI p) (nI o) (nI b) = v1 at fl sp1 hB
  refine lv_istore (lv' := [(8, .int la), (7, .int bk), (6, .int wy), (5, .int (nI b)), (4, .int (nI o)), (3, .int (nI p)), (2, .ref aw), (0, .ref (α 0)), (1, .ref qa)]) S.1 S.2.1 dL_foretold_64 hl (by decide) rfl (fun ls hl => ?_)
  rcases fl with ⟨f1, f2, f3⟩ | ⟨f1, f2, f3⟩
  · refine lv_iload S.1 S.2.1 dL_foretold_66 (lv_at hl 2 rfl) ?_
    refine lv_if_ge (tgt := 86) S.1 S.2.1 dL_foretold_68 (by decide) (fun z9 => absurd z9 (Int32.not_le.mpr f1)) (fun _ => ?_)
    refine lv_iload S.1 S.2.1 dL_foretold_71 (lv_at hl 0 rfl) ?_
    refine lv_iload S.1 S.2.1 dL_foretold_73 (lv_at hl 2 rfl) ?_
    refine lv_icmp_ne (tgt := 82) S.1 S.2.1 dL_foretold_75 (by decide) (fun z9 => absurd (f2) z9) (fun _ => ?_)
    refine lv_iconst (v := 1) S.1 S.2.1 dL_foretold_78 (by decide) ?_
    refine lv_goto (tgt := 119) S.1 S.2.1 dL_foretold_79 (by decide) ?_
    refine lv_istore (lv' := [(9, .int 1), (8, .int la), (7, .int bk), (6, .int wy), (5, .int (nI b)), (4, .int (nI o)), (3, .int (nI p)), (2, .ref aw), (0, .ref (α 0)), (1, .ref qa)]) S.1 S.2.1 dL_foretold_119 hl (by decide) rfl (fun ls hl => ?_)
    rw [f3] at hB
    refine W.more (cells' := 2100) (slots' := 83200) ?_ (by decide) (by decide)
    exact fo_cl S hK hE hA hG hC hr hlk hEnd hLw hnw hTX hN0 hX hR hP hD hS hB hQ hR hX hTw rfl rfl bb (by omega) (lv_sub hl [0, 4, 7, 9, 8] rfl)
  · have hl0 : ¬ la < 0 := by
      rcases sp1.2.2.2.2.2 with ⟨c, e⟩ | ⟨c, -⟩
      · exact absurd c (lay_nn f2 hbk)
      · exact c
    have hH := step_hl sp1 hl0 (HL.nil hR) (by decide)
    obtain ⟨hR1, hX1, e21, -⟩ := sp1
    have hR0 := hR
    have hR := hR1
    refine lv_iload S.1 S.2.1 dL_foretold_66 (lv_at hl 2 rfl) ?_
    refine lv_if_ge (tgt := 86) S.1 S.2.1 dL_foretold_68 (by decide) (fun _ => ?_) (fun z9 => absurd (Int32.not_lt.mp f1) z9)
    refine lv_iload S.1 S.2.1 dL_foretold_86 (lv_at hl 0 rfl) ?_
    refine lv_iload S.1 S.2.1 dL_foretold_88 (lv_at hl 1 rfl) ?_
    refine lv_iconst (v := 1) S.1 S.2.1 dL_foretold_90 (by decide) ?_
    refine lv_iadd S.1 S.2.1 dL_foretold_91 ?_
    refine lv_icmp_ne (tgt := 118) S.1 S.2.1 dL_foretold_92 (by decide) (fun z9 => absurd (f2) z9) (fun _ => ?_)
    refine lv_aload_n S.1 S.2.1 dL_foretold_95 rfl (lv_at hl 7 rfl) ?_
    refine lv_iload S.1 S.2.1 dL_foretold_96 (lv_at hl 4 rfl) ?_
    refine lv_iconst (v := 5) S.1 S.2.1 dL_foretold_98 (by decide) ?_
    refine x_aftR (st1 := [.int (a_stick v1 (nI o) (5 : Int32))]) (x_V0 (As := [.int (nI o), .int 5]) (rest := []) S mi_X11_stick qw1209 (k_stick l D (va_A u H.size) u α (nI o) (5 : Int32) hB) hK hP (wd_own hD) (hE.own hS hD hA) (hB.recv hK hP) rfl rfl hl.1 (Nat.le_of_ble_eq_true rfl) rfl rfl ⟨(Nat.le_of_ble_eq_true rfl), (Nat.le_of_ble_eq_true rfl)⟩ ⟨(Nat.le_of_ble_eq_true rfl), (Nat.le_of_ble_eq_true rfl)⟩ dL_foretold_99) hS (wa_sub hD (fun q hq => hA q (Nat.le_trans hS.1 hq))) rfl (fun locs hS => ?_)
    refine lv_iload S.1 S.2.1 dL_foretold_102 (lv_at hl 2 rfl) ?_
    refine lv_icmp_ne (tgt := 118) S.1 S.2.1 dL_foretold_104 (by decide) (fun z9 => absurd (f3) z9) (fun _ => ?_)
    refine lv_aload_n S.1 S.2.1 dL_foretold_107 rfl (lv_at hl 7 rfl) ?_
    refine x_ownQ (st1 := [.int (a_undo v1)]) (x_V0 (As := []) (rest := []) S mi_X11_undo qw1537 (k_undo l D (va_A u H.size) u α hR (by omega)  hB) hK hP (wd_own hD) (hE.own hS hD hA) (hB.recv hK hP) rfl rfl hl.1 (Nat.le_of_ble_eq_true rfl) rfl rfl ⟨(Nat.le_of_ble_eq_true rfl), (Nat.le_of_ble_eq_true rfl)⟩ ⟨(Nat.le_of_ble_eq_true rfl), (Nat.le_of_ble_eq_true rfl)⟩ dL_foretold_108) hS hD hA rfl (fun u H locs hq hP hD hS hkp => ?_)
    obtain ⟨hB, hsm⟩ := hq
    have hTw := hkp.2 _ _ _ _ hTw
    clear hkp
    have hQ := hQ.same hsm (Nat.le_refl _)
    clear hsm
    obtain ⟨q1, q2, q3, q4, q5⟩ := hH.pop
    have hR2 := q_undo hR (by omega)
    have h212 := q4.trans e21
    have hX2 := ex_same hX q2
    generalize n_undo v1 = v2 at hB hR2 h212 q2 hX2
    generalize a_undo v1 = x1 at q1 ⊢
    refine lv_if_lt (tgt := 118) S.1 S.2.1 dL_foretold_111 (by decide) (fun z9 => absurd z9 (q1)) (fun _ => ?_)
    refine lv_iconst (v := 1) S.1 S.2.1 dL_foretold_114 (by decide) ?_
    refine lv_goto (tgt := 119) S.1 S.2.1 dL_foretold_115 (by decide) ?_
    refine lv_istore (lv' := [(9, .int 1), (8, .int la), (7, .int bk), (6, .int wy), (5, .int (nI b)), (4, .int (nI o)), (3, .int (nI p)), (2, .ref aw), (0, .ref (α 0)), (1, .ref qa)]) S.1 S.2.1 dL_foretold_119 hl (by decide) rfl (fun ls hl => ?_)
    refine W.more (cells' := 2100) (slots' := 83200) ?_ (by decide) (by decide)
    exact fo_cl S hK hE hA hG hC hr hlk hEnd hLw hnw hTX hN0 hX hR0 hP hD hS hB hQ hR2 hX2 hTw h212 q2 bb (by omega) (lv_sub hl [0, 4, 7, 9, 8] rfl)
