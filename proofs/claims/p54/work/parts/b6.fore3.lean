/-! THE LAW: foretold, its middle -/
section FOM
variable {pg : Program} {l : Launch} {en : Env} {s : State} {mi : MethodId} {ar : Array Value} {below : List Frame} {me : Method} {co : Code} {Z : State → Prop} {H : Heap} {locs : List Loc} {ls : Array Slot} {D : va_G} {A : Nat → Prop} {α : Nat → Nat} {u : va_W} {v v0 : VT} {N N0 P B Q qa : Nat} {y : Int32} {wa wv wn n0 n1 n2 b d : Nat} {wf : Nat → Int32}
set_option maxHeartbeats 4000000 in
set_option maxRecDepth 100000 in
theorem fd_l (S : CallFix pg mi co cL_foretold 19 s ar lw_all RL) (hK : va_K D vwCl (gTys D) s) (hE : EV D A s s.heap) (hA : ∀ q, s.heap.size ≤ q → A q) (hG : DGf A s s.heap) (hC : CN s) (hr : me.sig.returnType = some .boolean) (hlk : me.locks = false) (hEnd : LEnd pg l en ({ frames := 13, cells := 10600, slots := 420000, locals := 400 } : Room) s mi ar below me co (foQ D A α v0 N0 P B Q qa) A Z 10600 420000) (hWL : BC wf wn (tolL v0 n0 n1 n2 P B)) (hwn : wn ≤ 10476) (hTX0 : TXT v0 n0 n1 n2) (hN0 : N0 ≤ 500) (hX0 : EX P v0) (hR0 : RA N0 P B Q v0) (hd1 : 1 ≤ d) (hd2 : d ≤ 30) (r : Nat) {k : Nat} (hP : va_P D vwCl u H) (hD : va_D A u) (hS : va_S A s.heap H locs) (hB : OB D α u v) (hQ : QW D 234 u qa y) (hR : RA N P B Q v) (hX : EX P v) (hW : Tx (va_A u H.size) s H wa wv wn wf) (h21 : v.2.1 = v0.2.1) (h1 : v.1 = v0.1) (hN : N ≤ N0 + 6 + 2 * k) (hl : lv_has ls 19 [(17, .int (nI k)), (16, .int ((prS v0 k).2)), (15, .int ((prS v0 k).1)), (14, .int (a_needIn v0 (nI d))), (13, .int ((prS v0 (d + 1)).2)), (12, .int (nI d)), (9, .int 1), (2, .ref wa), (1, .ref qa), (0, .ref (α 0))]) (hk : k + r = d + 1) : W pg l en ({ frames := 13, cells := 10600, slots := 420000, locals := 400 } : Room) s mi ar below me co H locs 2100 83200 Z (F0 mi 470 ls []) := by
  induction r generalizing k v u N H locs ls with
  | zero =>
    have hk : k = d + 1 := hk
    subst hk
    refine lv_iload S.1 S.2.1 dL_foretold_470 (lv_at hl 0 rfl) ?_
    refine lv_iload S.1 S.2.1 dL_foretold_472 (lv_at hl 5 rfl) ?_
    refine lv_icmp_gt (tgt := 589) S.1 S.2.1 dL_foretold_474 (by decide) (fun _ => ?_) (fun z9 => absurd (nI_lt (Nat.lt_succ_self d) (by omega)) z9)
    exact fo_fe S hK hE hA hG hC hr hlk hEnd hWL hwn hTX0 hN0 hX0 hP hD hS hB hQ hR hX hW h21 h1 hd1 hd2 (by omega) (lv_sub hl [1, 4, 5, 6, 7, 8, 9] rfl)
  | succ r ih =>
    obtain ⟨os1, os2, os3, os4, os5, os6, os7⟩ := obs_same h1 h21
    by_cases c0 : k = 0
    · refine lv_iload S.1 S.2.1 dL_foretold_470 (lv_at hl 0 rfl) ?_
      refine lv_iload S.1 S.2.1 dL_foretold_472 (lv_at hl 5 rfl) ?_
      refine lv_icmp_gt (tgt := 589) S.1 S.2.1 dL_foretold_474 (by decide) (fun z9 => absurd z9 (fun z9 => absurd ((nI_ltI (by omega) (by omega)).mp z9) (by omega))) (fun _ => ?_)
      refine lv_iload S.1 S.2.1 dL_foretold_477 (lv_at hl 6 rfl) ?_
      refine lv_if_eq (tgt := 589) S.1 S.2.1 dL_foretold_479 (by decide) (fun z9 => absurd z9 (by decide)) (fun _ => ?_)
      refine lv_iload S.1 S.2.1 dL_foretold_482 (lv_at hl 0 rfl) ?_
      refine lv_if_le (tgt := 503) S.1 S.2.1 dL_foretold_484 (by decide) (fun _ => ?_) (fun z9 => absurd (by rw [c0]; exact Int32.le_refl _) z9)
      exact fd_m S hK hE hA hG hC hr hlk hEnd hWL hwn hTX0 hN0 hX0 hR0 hP hD hS hB hQ hR hX hW h21 hd1 hd2 (by omega) (by rw [sur_0 hR, os3, c0]) (fun z => absurd z (by omega)) (.inl ⟨c0, h1⟩) (by omega) (fun {u} {v} {N} {H} {locs} {ls} hP hD hS hB hQ hR hX hW h21 h1 hN hl => ih (k := k + 1) hP hD hS hB hQ hR hX hW h21 h1 (by omega) hl (by omega)) (lv_sub hl [0, 1, 2, 3, 4, 5, 6, 7, 8, 9] rfl)
    · refine lv_iload S.1 S.2.1 dL_foretold_470 (lv_at hl 0 rfl) ?_
      refine lv_iload S.1 S.2.1 dL_foretold_472 (lv_at hl 5 rfl) ?_
      refine lv_icmp_gt (tgt := 589) S.1 S.2.1 dL_foretold_474 (by decide) (fun z9 => absurd z9 (fun z9 => absurd ((nI_ltI (by omega) (by omega)).mp z9) (by omega))) (fun _ => ?_)
      refine lv_iload S.1 S.2.1 dL_foretold_477 (lv_at hl 6 rfl) ?_
      refine lv_if_eq (tgt := 589) S.1 S.2.1 dL_foretold_479 (by decide) (fun z9 => absurd z9 (by decide)) (fun _ => ?_)
      refine lv_iload S.1 S.2.1 dL_foretold_482 (lv_at hl 0 rfl) ?_
      refine lv_if_le (tgt := 503) S.1 S.2.1 dL_foretold_484 (by decide) (fun z9 => absurd z9 (fun z9 => absurd ((nI_leI (b := 0) (by omega) (by decide)).mp z9) (by omega))) (fun _ => ?_)
      refine lv_aload_n S.1 S.2.1 dL_foretold_487 rfl (lv_at hl 9 rfl) ?_
      refine lv_iload S.1 S.2.1 dL_foretold_488 (lv_at hl 0 rfl) ?_
      refine x_ownQ (st1 := [.int (a_pass v (nI k))]) (x_V0 (As := [.int (nI k)]) (rest := []) S mi_X11_pass qw1283 (k_pass l D (va_A u H.size) u α hR (by omega) (nI k) hB) hK hP (wd_own hD) (hE.own hS hD hA) (hB.recv hK hP) rfl rfl hl.1 (Nat.le_of_ble_eq_true rfl) rfl rfl ⟨(Nat.le_of_ble_eq_true rfl), (Nat.le_of_ble_eq_true rfl)⟩ ⟨(Nat.le_of_ble_eq_true rfl), (Nat.le_of_ble_eq_true rfl)⟩ dL_foretold_490) hS hD hA rfl (fun u H locs hq hP hD hS hkp => ?_)
      obtain ⟨hB, hsm⟩ := hq
      have hW := hkp.2 _ _ _ _ hW
      clear hkp
      have hQ := hQ.same hsm (Nat.le_refl _)
      clear hsm
      have sp1 := sp_pass hR (by omega) hX (nI k)
      obtain ⟨q1, -⟩ := pass_nn hR (by omega) hX (d := k) (by omega) (by omega)
      have hH1 := step_hl sp1 q1 (HL.nil hR) (by decide)
      rw [h1] at hH1
      obtain ⟨hR2, hX2, e21, -⟩ := sp1
      have h212 := e21.trans h21
      obtain ⟨su1, su2⟩ := sur_ok hR (by omega) (d := k) (by omega) (by omega) hR2
      have hits : a_value (n_pass v (nI k)) 15 - a_needIn (n_pass v (nI k)) 0 = sur v0 k := su1.trans (congrFun os3 k)
      have hneed : k = d → a_needIn (n_pass v (nI k)) 0 = a_needIn v0 (nI d) := fun z => by
        rw [su2, ← needIn_d v (by omega), os2, z]
      generalize n_pass v (nI k) = v2 at hB hR2 hX2 h212 hH1 hits hneed
      generalize a_pass v (nI k) = x2 at q1 ⊢
      refine lv_if_lt (tgt := 500) S.1 S.2.1 dL_foretold_493 (by decide) (fun z9 => absurd z9 (q1)) (fun _ => ?_)
      refine lv_iconst (v := 1) S.1 S.2.1 dL_foretold_496 (by decide) ?_
      refine lv_goto (tgt := 501) S.1 S.2.1 dL_foretold_497 (by decide) ?_
      refine lv_istore (lv' := [(9, .int 1), (17, .int (nI k)), (16, .int ((prS v0 k).2)), (15, .int ((prS v0 k).1)), (14, .int (a_needIn v0 (nI d))), (13, .int ((prS v0 (d + 1)).2)), (12, .int (nI d)), (2, .ref wa), (1, .ref qa), (0, .ref (α 0))]) S.1 S.2.1 dL_foretold_501 hl (by decide) rfl (fun ls hl => ?_)
      refine W.more (cells' := 2100) (slots' := 83200) ?_ (by decide) (by decide)
      exact fd_m S hK hE hA hG hC hr hlk hEnd hWL hwn hTX0 hN0 hX0 hR0 hP hD hS hB hQ hR2 hX2 hW h212 hd1 hd2 (by omega) hits hneed (.inr ⟨by omega, hH1⟩) (by omega) (fun {u} {v} {N} {H} {locs} {ls} hP hD hS hB hQ hR hX hW h21 h1 hN hl => ih (k := k + 1) hP hD hS hB hQ hR hX hW h21 h1 (by omega) hl (by omega)) (lv_sub hl [1, 2, 3, 4, 5, 6, 0, 7, 8, 9] rfl)
set_option maxHeartbeats 4000000 in
set_option maxRecDepth 100000 in
theorem fd_0 (S : CallFix pg mi co cL_foretold 19 s ar lw_all RL) (hK : va_K D vwCl (gTys D) s) (hE : EV D A s s.heap) (hA : ∀ q, s.heap.size ≤ q → A q) (hG : DGf A s s.heap) (hC : CN s) (hr : me.sig.returnType = some .boolean) (hlk : me.locks = false) (hEnd : LEnd pg l en ({ frames := 13, cells := 10600, slots := 420000, locals := 400 } : Room) s mi ar below me co (foQ D A α v0 N0 P B Q qa) A Z 10600 420000) (hWL : BC wf wn (tolL v0 n0 n1 n2 P B)) (hwn : wn ≤ 10476) (hTX0 : TXT v0 n0 n1 n2) (hN0 : N0 ≤ 500) (hX0 : EX P v0) (hR0 : RA N0 P B Q v0) (hP : va_P D vwCl u H) (hD : va_D A u) (hS : va_S A s.heap H locs) (hB : OB D α u v) (hQ : QW D 234 u qa y) (hR : RA N P B Q v) (hX : EX P v) (hW : Tx (va_A u H.size) s H wa wv wn wf) (h21 : v.2.1 = v0.2.1) (h1 : v.1 = v0.1) (hN : N ≤ N0 + 6) (hl : lv_has ls 19 [(9, .int 1), (2, .ref wa), (1, .ref qa), (0, .ref (α 0))]) : W pg l en ({ frames := 13, cells := 10600, slots := 420000, locals := 400 } : Room) s mi ar below me co H locs 2100 83200 Z (F0 mi 433 ls []) := by
  obtain ⟨os1, os2, os3, os4, os5, os6, os7⟩ := obs_same h1 h21
  refine lv_iconst (v := 1) S.1 S.2.1 dL_foretold_433 (by decide) ?_
  refine lv_aload_n S.1 S.2.1 dL_foretold_434 rfl (lv_at hl 2 rfl) ?_
  refine x_ownQ (st1 := [.int (drw (dnx y)), .int 1]) (x_St0 (As := [.ref qa]) (rest := [.int 1]) S ms_L_draw qw972 (l_drawS l D (va_A u H.size) u hQ) hK hP (wd_own hD) (hE.own hS hD hA) rfl rfl hl.1 (Nat.le_of_ble_eq_true rfl) rfl rfl ⟨(Nat.le_of_ble_eq_true rfl), (Nat.le_of_ble_eq_true rfl)⟩ ⟨(Nat.le_of_ble_eq_true rfl), (Nat.le_of_ble_eq_true rfl)⟩ dL_foretold_435) hS hD hA rfl (fun u H locs hq hP hD hS hkp => ?_)
  obtain ⟨hQ, hsm⟩ := hq
  have hB := hB.agree (fun j hj => hsm.2 j (.inl hj))
  clear hsm
  have hW := hkp.2 _ _ _ _ hW
  clear hkp
  obtain ⟨d1, hd1, ed1⟩ := drw_at (dnx y)
  rw [ed1]
  clear ed1
  generalize dnx y = y at hQ
  refine lv_bipush (v := 30) S.1 S.2.1 dL_foretold_438 (by decide) ?_
  refine lv_irem S.1 S.2.1 dL_foretold_440 (by decide) ?_
  rw [show nI d1 - nI d1 / 30 * 30 = nI (d1 % 30) from pk_rem (d := 30) (by omega) (by omega) (by omega)]
  refine lv_iadd S.1 S.2.1 dL_foretold_441 ?_
  rw [show (1 : Int32) + nI (d1 % 30) = nI (1 + d1 % 30) from nI_add 1 (d1 % 30)]
  obtain ⟨d, hd⟩ : ∃ z, z = 1 + d1 % 30 := ⟨_, rfl⟩
  rw [← hd]
  have hd1 : 1 ≤ d := by omega
  have hd2 : d ≤ 30 := by omega
  clear hd
  refine lv_istore (lv' := [(12, .int (nI d)), (9, .int 1), (2, .ref wa), (1, .ref qa), (0, .ref (α 0))]) S.1 S.2.1 dL_foretold_442 hl (by decide) rfl (fun ls hl => ?_)
  refine lv_aload_n S.1 S.2.1 dL_foretold_444 rfl (lv_at hl 4 rfl) ?_
  refine lv_iload S.1 S.2.1 dL_foretold_445 (lv_at hl 0 rfl) ?_
  refine x_aftR (st1 := [.int (a_bestDay v (nI d))]) (x_V0 (As := [.int (nI d)]) (rest := []) S mi_X11_bestDay qw1572 (k_bestDay l D (va_A u H.size) u α (nI d) hB) hK hP (wd_own hD) (hE.own hS hD hA) (hB.recv hK hP) rfl rfl hl.1 (Nat.le_of_ble_eq_true rfl) rfl rfl ⟨(Nat.le_of_ble_eq_true rfl), (Nat.le_of_ble_eq_true rfl)⟩ ⟨(Nat.le_of_ble_eq_true rfl), (Nat.le_of_ble_eq_true rfl)⟩ dL_foretold_447) hS (wa_sub hD (fun q hq => hA q (Nat.le_trans hS.1 hq))) rfl (fun locs hS => ?_)
  rw [show (a_bestDay v (nI d)) = (prS v0 (d + 1)).2 from (os4 _).trans (best_is v0 hd1 (by omega))]
  refine lv_istore (lv' := [(13, .int ((prS v0 (d + 1)).2)), (12, .int (nI d)), (9, .int 1), (2, .ref wa), (1, .ref qa), (0, .ref (α 0))]) S.1 S.2.1 dL_foretold_450 hl (by decide) rfl (fun ls hl => ?_)
  refine lv_aload_n S.1 S.2.1 dL_foretold_452 rfl (lv_at hl 5 rfl) ?_
  refine lv_iload S.1 S.2.1 dL_foretold_453 (lv_at hl 1 rfl) ?_
  refine x_aftR (st1 := [.int (a_needIn v (nI d))]) (x_V0 (As := [.int (nI d)]) (rest := []) S mi_X11_needIn qw1334 (k_needIn l D (va_A u H.size) u α (nI d) hB) hK hP (wd_own hD) (hE.own hS hD hA) (hB.recv hK hP) rfl rfl hl.1 (Nat.le_of_ble_eq_true rfl) rfl rfl ⟨(Nat.le_of_ble_eq_true rfl), (Nat.le_of_ble_eq_true rfl)⟩ ⟨(Nat.le_of_ble_eq_true rfl), (Nat.le_of_ble_eq_true rfl)⟩ dL_foretold_455) hS (wa_sub hD (fun q hq => hA q (Nat.le_trans hS.1 hq))) rfl (fun locs hS => ?_)
  rw [show (a_needIn v (nI d)) = (a_needIn v0 (nI d)) from os2 _]
  refine lv_istore (lv' := [(14, .int (a_needIn v0 (nI d))), (13, .int ((prS v0 (d + 1)).2)), (12, .int (nI d)), (9, .int 1), (2, .ref wa), (1, .ref qa), (0, .ref (α 0))]) S.1 S.2.1 dL_foretold_458 hl (by decide) rfl (fun ls hl => ?_)
  refine lv_bipush (v := (-100)) S.1 S.2.1 dL_foretold_460 (by decide) ?_
  refine lv_istore (lv' := [(15, .int (-100)), (14, .int (a_needIn v0 (nI d))), (13, .int ((prS v0 (d + 1)).2)), (12, .int (nI d)), (9, .int 1), (2, .ref wa), (1, .ref qa), (0, .ref (α 0))]) S.1 S.2.1 dL_foretold_462 hl (by decide) rfl (fun ls hl => ?_)
  refine lv_iconst (v := 0) S.1 S.2.1 dL_foretold_464 (by decide) ?_
  refine lv_istore (lv' := [(16, .int 0), (15, .int (-100)), (14, .int (a_needIn v0 (nI d))), (13, .int ((prS v0 (d + 1)).2)), (12, .int (nI d)), (9, .int 1), (2, .ref wa), (1, .ref qa), (0, .ref (α 0))]) S.1 S.2.1 dL_foretold_465 hl (by decide) rfl (fun ls hl => ?_)
  refine lv_iconst (v := 0) S.1 S.2.1 dL_foretold_467 (by decide) ?_
  refine lv_istore (lv' := [(17, .int 0), (16, .int 0), (15, .int (-100)), (14, .int (a_needIn v0 (nI d))), (13, .int ((prS v0 (d + 1)).2)), (12, .int (nI d)), (9, .int 1), (2, .ref wa), (1, .ref qa), (0, .ref (α 0))]) S.1 S.2.1 dL_foretold_468 hl (by decide) rfl (fun ls hl => ?_)
  refine W.more (cells' := 2100) (slots' := 83200) ?_ (by decide) (by decide)
  exact fd_l S hK hE hA hG hC hr hlk hEnd hWL hwn hTX0 hN0 hX0 hR0 hd1 hd2 (d + 1) (k := 0) hP hD hS hB hQ hR hX hW h21 h1 (by omega) (lv_sub hl [0, 1, 2, 3, 4, 5, 6, 7, 8, 9] rfl) (Nat.zero_add _)
set_option maxHeartbeats 4000000 in
set_option maxRecDepth 100000 in
theorem fo_rc (S : CallFix pg mi co cL_foretold 19 s ar lw_all RL) (hK : va_K D vwCl (gTys D) s) (hE : EV D A s s.heap) (hA : ∀ q, s.heap.size ≤ q → A q) (hG : DGf A s s.heap) (hC : CN s) (hr : me.sig.returnType = some .boolean) (hlk : me.locks = false) (hEnd : LEnd pg l en ({ frames := 13, cells := 10600, slots := 420000, locals := 400 } : Room) s mi ar below me co (foQ D A α v0 N0 P B Q qa) A Z 10600 420000) (hWL : BC wf wn (tolL v0 n0 n1 n2 P B)) (hwn : wn ≤ 10476) (hTX0 : TXT v0 n0 n1 n2) (hN0 : N0 ≤ 500) (hX0 : EX P v0) (hR0 : RA N0 P B Q v0) (hP : va_P D vwCl u H) (hD : va_D A u) (hS : va_S A s.heap H locs) (hB : OB D α u v) (hQ : QW D 234 u qa y) (hR : RA N P B Q v) (hX : EX P v) (hW : Tx (va_A u H.size) s H wa wv wn wf) (h21 : v.2.1 = v0.2.1) (h1 : v.1 = v0.1) (hN : N ≤ N0 + 4) (hl : lv_has ls 19 [(9, .int 1), (2, .ref wa), (1, .ref qa), (0, .ref (α 0))]) : W pg l en ({ frames := 13, cells := 10600, slots := 420000, locals := 400 } : Room) s mi ar below me co H locs 2100 83200 Z (F0 mi 324 ls []) := by
  refine lv_aload_n S.1 S.2.1 dL_foretold_324 rfl (lv_at hl 3 rfl) ?_
  refine x_ownQ (st1 := [.int (a_truly v)]) (x_V0 (As := []) (rest := []) S mi_X11_truly qw1383 (k_truly l D (va_A u H.size) u α hR (by omega)  hB) hK hP (wd_own hD) (hE.own hS hD hA) (hB.recv hK hP) rfl rfl hl.1 (Nat.le_of_ble_eq_true rfl) rfl rfl ⟨(Nat.le_of_ble_eq_true rfl), (Nat.le_of_ble_eq_true rfl)⟩ ⟨(Nat.le_of_ble_eq_true rfl), (Nat.le_of_ble_eq_true rfl)⟩ dL_foretold_325) hS hD hA rfl (fun u H locs hq hP hD hS hkp => ?_)
  obtain ⟨hB, hsm⟩ := hq
  have hW := hkp.2 _ _ _ _ hW
  clear hkp
  have hQ := hQ.same hsm (Nat.le_refl _)
  clear hsm
  refine lv_istore (lv' := [(10, .int (a_truly v)), (9, .int 1), (2, .ref wa), (1, .ref qa), (0, .ref (α 0))]) S.1 S.2.1 dL_foretold_328 hl (by decide) rfl (fun ls hl => ?_)
  refine lv_aload_n S.1 S.2.1 dL_foretold_330 rfl (lv_at hl 4 rfl) ?_
  refine lv_bipush (v := 16) S.1 S.2.1 dL_foretold_331 (by decide) ?_
  refine x_ownQ (st1 := [.int (a_value v (16 : Int32))]) (x_V0 (As := [.int 16]) (rest := []) S mi_X11_value qw725 (k_value l D (va_A u H.size) u α hR (by omega) (16 : Int32) hB) hK hP (wd_own hD) (hE.own hS hD hA) (hB.recv hK hP) rfl rfl hl.1 (Nat.le_of_ble_eq_true rfl) rfl rfl ⟨(Nat.le_of_ble_eq_true rfl), (Nat.le_of_ble_eq_true rfl)⟩ ⟨(Nat.le_of_ble_eq_true rfl), (Nat.le_of_ble_eq_true rfl)⟩ dL_foretold_333) hS hD hA rfl (fun u H locs hq hP hD hS hkp => ?_)
  obtain ⟨hB, hsm⟩ := hq
  have hW := hkp.2 _ _ _ _ hW
  clear hkp
  have hQ := hQ.same hsm (Nat.le_refl _)
  clear hsm
  refine lv_istore (lv' := [(11, .int (a_value v (16 : Int32))), (10, .int (a_truly v)), (9, .int 1), (2, .ref wa), (1, .ref qa), (0, .ref (α 0))]) S.1 S.2.1 dL_foretold_336 hl (by decide) rfl (fun ls hl => ?_)
  refine lv_aload_n S.1 S.2.1 dL_foretold_338 rfl (lv_at hl 5 rfl) ?_
  refine lv_bipush (v := 8) S.1 S.2.1 dL_foretold_339 (by decide) ?_
  refine x_ownQ (st1 := [.int (a_value v (8 : Int32))]) (x_V0 (As := [.int 8]) (rest := []) S mi_X11_value qw725 (k_value l D (va_A u H.size) u α hR (by omega) (8 : Int32) hB) hK hP (wd_own hD) (hE.own hS hD hA) (hB.recv hK hP) rfl rfl hl.1 (Nat.le_of_ble_eq_true rfl) rfl rfl ⟨(Nat.le_of_ble_eq_true rfl), (Nat.le_of_ble_eq_true rfl)⟩ ⟨(Nat.le_of_ble_eq_true rfl), (Nat.le_of_ble_eq_true rfl)⟩ dL_foretold_341) hS hD hA rfl (fun u H locs hq hP hD hS hkp => ?_)
  obtain ⟨hB, hsm⟩ := hq
  have hW := hkp.2 _ _ _ _ hW
  clear hkp
  have hQ := hQ.same hsm (Nat.le_refl _)
  clear hsm
  refine lv_iconst (v := 2) S.1 S.2.1 dL_foretold_344 (by decide) ?_
  refine lv_icmp_ne (tgt := 412) S.1 S.2.1 dL_foretold_345 (by decide) (fun c1 => ?_) (fun c1 => ?_)
  · refine lv_iload S.1 S.2.1 dL_foretold_412 (lv_at hl 2 rfl) ?_
    refine lv_if_eq (tgt := 430) S.1 S.2.1 dL_foretold_414 (by decide) (fun z9 => absurd z9 (by decide)) (fun _ => ?_)
    refine lv_aload_n S.1 S.2.1 dL_foretold_417 rfl (lv_at hl 5 rfl) ?_
    refine x_ownQ (st1 := [.int (a_recount v)]) (x_V0 (As := []) (rest := []) S mi_X11_recount qw1273 (k_recount l D (va_A u H.size) u α hR (by omega)  hB) hK hP (wd_own hD) (hE.own hS hD hA) (hB.recv hK hP) rfl rfl hl.1 (Nat.le_of_ble_eq_true rfl) rfl rfl ⟨(Nat.le_of_ble_eq_true rfl), (Nat.le_of_ble_eq_true rfl)⟩ ⟨(Nat.le_of_ble_eq_true rfl), (Nat.le_of_ble_eq_true rfl)⟩ dL_foretold_418) hS hD hA rfl (fun u H locs hq hP hD hS hkp => ?_)
    obtain ⟨⟨blB, blC, hB⟩, hsm⟩ := hq
    have hW := hkp.2 _ _ _ _ hW
    clear hkp
    have hQ := hQ.same hsm (Nat.le_refl _)
    clear hsm
    obtain ⟨p1, p2⟩ := fo_norecount v (fun z => c1 z.1) blB blC
    rw [p2] at hB
    rw [p1]
    refine lv_bipush (v := (-5)) S.1 S.2.1 dL_foretold_421 (by decide) ?_
    refine lv_icmp_ne (tgt := 430) S.1 S.2.1 dL_foretold_423 (by decide) (fun z9 => absurd (rfl) z9) (fun _ => ?_)
    refine lv_iconst (v := 1) S.1 S.2.1 dL_foretold_426 (by decide) ?_
    refine lv_goto (tgt := 431) S.1 S.2.1 dL_foretold_427 (by decide) ?_
    refine lv_istore (lv' := [(9, .int 1), (11, .int (a_value v (16 : Int32))), (10, .int (a_truly v)), (2, .ref wa), (1, .ref qa), (0, .ref (α 0))]) S.1 S.2.1 dL_foretold_431 hl (by decide) rfl (fun ls hl => ?_)
    refine W.more (cells' := 2100) (slots' := 83200) ?_ (by decide) (by decide)
    exact fd_0 S hK hE hA hG hC hr hlk hEnd hWL hwn hTX0 hN0 hX0 hR0 hP hD hS hB hQ hR hX hW h21 h1 (by omega) (lv_sub hl [0, 3, 4, 5] rfl)
  · refine lv_aload_n S.1 S.2.1 dL_foretold_348 rfl (lv_at hl 5 rfl) ?_
    refine lv_bipush (v := 12) S.1 S.2.1 dL_foretold_349 (by decide) ?_
    refine x_ownQ (st1 := [.int (a_value v (12 : Int32))]) (x_V0 (As := [.int 12]) (rest := []) S mi_X11_value qw725 (k_value l D (va_A u H.size) u α hR (by omega) (12 : Int32) hB) hK hP (wd_own hD) (hE.own hS hD hA) (hB.recv hK hP) rfl rfl hl.1 (Nat.le_of_ble_eq_true rfl) rfl rfl ⟨(Nat.le_of_ble_eq_true rfl), (Nat.le_of_ble_eq_true rfl)⟩ ⟨(Nat.le_of_ble_eq_true rfl), (Nat.le_of_ble_eq_true rfl)⟩ dL_foretold_351) hS hD hA rfl (fun u H locs hq hP hD hS hkp => ?_)
    obtain ⟨hB, hsm⟩ := hq
    have hW := hkp.2 _ _ _ _ hW
    clear hkp
    have hQ := hQ.same hsm (Nat.le_refl _)
    clear hsm
    refine lv_aload_n S.1 S.2.1 dL_foretold_354 rfl (lv_at hl 5 rfl) ?_
    refine lv_bipush (v := 9) S.1 S.2.1 dL_foretold_355 (by decide) ?_
    refine x_aftR (st1 := [.int (a_number v (9 : Int32)), .int (a_value v (12 : Int32))]) (x_V0 (As := [.int 9]) (rest := [.int (a_value v (12 : Int32))]) S mi_X11_number qw1356 (k_number l D (va_A u H.size) u α (9 : Int32) hB) hK hP (wd_own hD) (hE.own hS hD hA) (hB.recv hK hP) rfl rfl hl.1 (Nat.le_of_ble_eq_true rfl) rfl rfl ⟨(Nat.le_of_ble_eq_true rfl), (Nat.le_of_ble_eq_true rfl)⟩ ⟨(Nat.le_of_ble_eq_true rfl), (Nat.le_of_ble_eq_true rfl)⟩ dL_foretold_357) hS (wa_sub hD (fun q hq => hA q (Nat.le_trans hS.1 hq))) rfl (fun locs hS => ?_)
    refine lv_icmp_ge (tgt := 412) S.1 S.2.1 dL_foretold_360 (by decide) (fun c2 => ?_) (fun c2 => ?_)
    · refine lv_iload S.1 S.2.1 dL_foretold_412 (lv_at hl 2 rfl) ?_
      refine lv_if_eq (tgt := 430) S.1 S.2.1 dL_foretold_414 (by decide) (fun z9 => absurd z9 (by decide)) (fun _ => ?_)
      refine lv_aload_n S.1 S.2.1 dL_foretold_417 rfl (lv_at hl 5 rfl) ?_
      refine x_ownQ (st1 := [.int (a_recount v)]) (x_V0 (As := []) (rest := []) S mi_X11_recount qw1273 (k_recount l D (va_A u H.size) u α hR (by omega)  hB) hK hP (wd_own hD) (hE.own hS hD hA) (hB.recv hK hP) rfl rfl hl.1 (Nat.le_of_ble_eq_true rfl) rfl rfl ⟨(Nat.le_of_ble_eq_true rfl), (Nat.le_of_ble_eq_true rfl)⟩ ⟨(Nat.le_of_ble_eq_true rfl), (Nat.le_of_ble_eq_true rfl)⟩ dL_foretold_418) hS hD hA rfl (fun u H locs hq hP hD hS hkp => ?_)
      obtain ⟨⟨blB, blC, hB⟩, hsm⟩ := hq
      have hW := hkp.2 _ _ _ _ hW
      clear hkp
      have hQ := hQ.same hsm (Nat.le_refl _)
      clear hsm
      obtain ⟨p1, p2⟩ := fo_norecount v (fun z => absurd z.2 (Int32.not_lt.mpr c2)) blB blC
      rw [p2] at hB
      rw [p1]
      refine lv_bipush (v := (-5)) S.1 S.2.1 dL_foretold_421 (by decide) ?_
      refine lv_icmp_ne (tgt := 430) S.1 S.2.1 dL_foretold_423 (by decide) (fun z9 => absurd (rfl) z9) (fun _ => ?_)
      refine lv_iconst (v := 1) S.1 S.2.1 dL_foretold_426 (by decide) ?_
      refine lv_goto (tgt := 431) S.1 S.2.1 dL_foretold_427 (by decide) ?_
      refine lv_istore (lv' := [(9, .int 1), (11, .int (a_value v (16 : Int32))), (10, .int (a_truly v)), (2, .ref wa), (1, .ref qa), (0, .ref (α 0))]) S.1 S.2.1 dL_foretold_431 hl (by decide) rfl (fun ls hl => ?_)
      refine W.more (cells' := 2100) (slots' := 83200) ?_ (by decide) (by decide)
      exact fd_0 S hK hE hA hG hC hr hlk hEnd hWL hwn hTX0 hN0 hX0 hR0 hP hD hS hB hQ hR hX hW h21 h1 (by omega) (lv_sub hl [0, 3, 4, 5] rfl)
    · refine lv_iload S.1 S.2.1 dL_foretold_363 (lv_at hl 2 rfl) ?_
      refine lv_if_eq (tgt := 412) S.1 S.2.1 dL_foretold_365 (by decide) (fun z9 => absurd z9 (by decide)) (fun _ => ?_)
      refine lv_aload_n S.1 S.2.1 dL_foretold_368 rfl (lv_at hl 5 rfl) ?_
      refine x_ownQ (st1 := [.int (a_recount v)]) (x_V0 (As := []) (rest := []) S mi_X11_recount qw1273 (k_recount l D (va_A u H.size) u α hR (by omega)  hB) hK hP (wd_own hD) (hE.own hS hD hA) (hB.recv hK hP) rfl rfl hl.1 (Nat.le_of_ble_eq_true rfl) rfl rfl ⟨(Nat.le_of_ble_eq_true rfl), (Nat.le_of_ble_eq_true rfl)⟩ ⟨(Nat.le_of_ble_eq_true rfl), (Nat.le_of_ble_eq_true rfl)⟩ dL_foretold_369) hS hD hA rfl (fun u H locs hq hP hD hS hkp => ?_)
      obtain ⟨⟨blB, blC, hB⟩, hsm⟩ := hq
      have hW := hkp.2 _ _ _ _ hW
      clear hkp
      have hQ := hQ.same hsm (Nat.le_refl _)
      clear hsm
      obtain ⟨p1, p2, p3, p4⟩ := fo_recount hR (by omega) hX c1 (Int32.not_le.mp c2) blB blC
      have sp1 := sp_recount hR (by omega) hX blB blC
      have hH := step_hl sp1 p4 (HL.nil hR) (by decide)
      rw [h1] at hH
      obtain ⟨hR1, hX1, e21, -⟩ := sp1
      have h211 := e21.trans h21
      generalize n_recount v blB blC = v1 at hB hR1 hX1 h211 hH p2 p3
      rw [p1]
      have hR := hR1
      refine lv_iload S.1 S.2.1 dL_foretold_372 (lv_at hl 0 rfl) ?_
      refine lv_icmp_ne (tgt := 406) S.1 S.2.1 dL_foretold_374 (by decide) (fun z9 => absurd (rfl) z9) (fun _ => ?_)
      refine lv_aload_n S.1 S.2.1 dL_foretold_377 rfl (lv_at hl 5 rfl) ?_
      refine lv_bipush (v := 10) S.1 S.2.1 dL_foretold_378 (by decide) ?_
      refine x_ownQ (st1 := [.int (a_value v1 (10 : Int32))]) (x_V0 (As := [.int 10]) (rest := []) S mi_X11_value qw725 (k_value l D (va_A u H.size) u α hR (by omega) (10 : Int32) hB) hK hP (wd_own hD) (hE.own hS hD hA) (hB.recv hK hP) rfl rfl hl.1 (Nat.le_of_ble_eq_true rfl) rfl rfl ⟨(Nat.le_of_ble_eq_true rfl), (Nat.le_of_ble_eq_true rfl)⟩ ⟨(Nat.le_of_ble_eq_true rfl), (Nat.le_of_ble_eq_true rfl)⟩ dL_foretold_380) hS hD hA rfl (fun u H locs hq hP hD hS hkp => ?_)
      obtain ⟨hB, hsm⟩ := hq
      have hW := hkp.2 _ _ _ _ hW
      clear hkp
      have hQ := hQ.same hsm (Nat.le_refl _)
      clear hsm
      rw [show (a_value v1 (10 : Int32)) = (a_truly v) from p2]
      refine lv_iload S.1 S.2.1 dL_foretold_383 (lv_at hl 1 rfl) ?_
      refine lv_icmp_ne (tgt := 406) S.1 S.2.1 dL_foretold_385 (by decide) (fun z9 => absurd (rfl) z9) (fun _ => ?_)
      refine lv_aload_n S.1 S.2.1 dL_foretold_388 rfl (lv_at hl 5 rfl) ?_
      refine x_aftR (st1 := [.int (a_wrongOnes v1)]) (x_V0 (As := []) (rest := []) S mi_X11_wrongOnes qw1361 (k_wrongOnes l D (va_A u H.size) u α  hB) hK hP (wd_own hD) (hE.own hS hD hA) (hB.recv hK hP) rfl rfl hl.1 (Nat.le_of_ble_eq_true rfl) rfl rfl ⟨(Nat.le_of_ble_eq_true rfl), (Nat.le_of_ble_eq_true rfl)⟩ ⟨(Nat.le_of_ble_eq_true rfl), (Nat.le_of_ble_eq_true rfl)⟩ dL_foretold_389) hS (wa_sub hD (fun q hq => hA q (Nat.le_trans hS.1 hq))) rfl (fun locs hS => ?_)
      rw [show (a_wrongOnes v1) = 0 from p3]
      refine lv_if_ne (tgt := 406) S.1 S.2.1 dL_foretold_392 (by decide) (fun z9 => absurd (rfl) z9) (fun _ => ?_)
      refine lv_aload_n S.1 S.2.1 dL_foretold_395 rfl (lv_at hl 5 rfl) ?_
      refine x_ownQ (st1 := [.int (a_undo v1)]) (x_V0 (As := []) (rest := []) S mi_X11_undo qw1537 (k_undo l D (va_A u H.size) u α hR (by omega)  hB) hK hP (wd_own hD) (hE.own hS hD hA) (hB.recv hK hP) rfl rfl hl.1 (Nat.le_of_ble_eq_true rfl) rfl rfl ⟨(Nat.le_of_ble_eq_true rfl), (Nat.le_of_ble_eq_true rfl)⟩ ⟨(Nat.le_of_ble_eq_true rfl), (Nat.le_of_ble_eq_true rfl)⟩ dL_foretold_396) hS hD hA rfl (fun u H locs hq hP hD hS hkp => ?_)
      obtain ⟨hB, hsm⟩ := hq
      have hW := hkp.2 _ _ _ _ hW
      clear hkp
      have hQ := hQ.same hsm (Nat.le_refl _)
      clear hsm
      obtain ⟨q1, q2, q3, q4, q5⟩ := hH.pop
      have hR2 := q_undo hR (by omega)
      have h212 := q4.trans h211
      have hX2 := ex_same hX0 q2
      generalize n_undo v1 = v2 at hB hR2 h212 q2 hX2
      generalize a_undo v1 = x1 at q1 ⊢
      refine lv_if_lt (tgt := 406) S.1 S.2.1 dL_foretold_399 (by decide) (fun z9 => absurd z9 (q1)) (fun _ => ?_)
      refine lv_iconst (v := 1) S.1 S.2.1 dL_foretold_402 (by decide) ?_
      refine lv_goto (tgt := 407) S.1 S.2.1 dL_foretold_403 (by decide) ?_
      refine lv_istore (lv' := [(9, .int 1), (11, .int (a_value v (16 : Int32))), (10, .int (a_truly v)), (2, .ref wa), (1, .ref qa), (0, .ref (α 0))]) S.1 S.2.1 dL_foretold_407 hl (by decide) rfl (fun ls hl => ?_)
      refine lv_goto (tgt := 433) S.1 S.2.1 dL_foretold_409 (by decide) ?_
      refine W.more (cells' := 2100) (slots' := 83200) ?_ (by decide) (by decide)
      exact fd_0 S hK hE hA hG hC hr hlk hEnd hWL hwn hTX0 hN0 hX0 hR0 hP hD hS hB hQ hR2 hX2 hW h212 q2 (by omega) (lv_sub hl [0, 3, 4, 5] rfl)
end FOM
