/-! THE LAW: its rounds -/
section LAWA
variable {pg : Program} {l : Launch} {en : Env} {s : State} {mi : MethodId} {ar : Array Value} {below : List Frame} {me : Method} {co : Code} {Z : State → Prop} {H : Heap} {locs : List Loc} {ls : Array Slot} {D : va_G} {A : Nat → Prop} {α : Nat → Nat} {u : va_W} {v : VT} {N P B Q qa sb i cl sl : Nat} {y : Int32} {ms : List Nat} {Tp : State → Prop}
set_option maxHeartbeats 4000000 in
set_option maxRecDepth 100000 in
theorem la_s (S : CallFix pg mi co cL_law 8 s ar lw_all RL) (hK : va_K D vwCl (gTys D) s) (hE : EV D A s s.heap) (hA : ∀ q, s.heap.size ≤ q → A q) (hG : DGf A s s.heap) (hC : CN s) (hTp : Tp s) (hTd : ∀ (s : State) (d : Drawn), Tp s → Tp (s.setDrawn d)) (hcl : cl ≤ 100000) (hsl : sl ≤ 2000000) {fa : Int32} {k : Nat} (hP : va_P D vwCl u H) (hD : va_D A u) (hS : va_S A s.heap H locs) (hB : OB D α u v) (hQ : QW D 234 u qa y) (hR : RA N P B Q v) (hX : EX P v) (hSV : SVI P B ms v) (hN : N ≤ 600) (hfa : fa ≤ v_faultO v 0) (kk : ∀ {u : va_W} {H : Heap} {locs : List Loc} {ls : Array Slot}, va_P D vwCl u H → va_D A u → va_S A s.heap H locs → OB D α u v → QW D 234 u qa y → RA N P B Q v → EX P v → SVI P B ms v → lv_has ls 8 [(5, .int (nI (k + 1))), (4, .ref (α 0)), (3, .int (nI i)), (2, .int 1), (1, .ref qa), (0, .ref sb)] → W pg l en ({ frames := 17, cells := 600000, slots := 7302249, locals := 700 } : Room) s mi ar below me co H locs (cl) (sl) Z (F0 mi 77 ls [])) (hl : lv_has ls 8 [(6, .int fa), (5, .int (nI k)), (4, .ref (α 0)), (3, .int (nI i)), (2, .int 1), (1, .ref qa), (0, .ref sb)]) : W pg l en ({ frames := 17, cells := 600000, slots := 7302249, locals := 700 } : Room) s mi ar below me co H locs (cl) (sl) Z (F0 mi 110 ls [.int 1]) := by
  refine lv_if_eq (tgt := 129) S.1 S.2.1 dL_law_110 (by decide) (fun z9 => absurd z9 (by decide)) (fun _ => ?_)
  refine lv_aload S.1 S.2.1 dL_law_113 (lv_at hl 2 rfl) ?_
  refine lv_iconst (v := 0) S.1 S.2.1 dL_law_115 (by decide) ?_
  refine lv_iconst (v := 3) S.1 S.2.1 dL_law_116 (by decide) ?_
  refine x_aftR (st1 := [.int (a_person v (0 : Int32) (3 : Int32))]) (x_V0 (As := [.int 0, .int 3]) (rest := []) S mi_X11_person qw463 (k_person l D (va_A u H.size) u α (0 : Int32) (3 : Int32) hB) hK hP (wd_own hD) (hE.own hS hD hA) (hB.recv hK hP) rfl rfl hl.1 (Nat.le_of_ble_eq_true rfl) rfl rfl ⟨(Nat.le_of_ble_eq_true rfl), (Nat.le_of_ble_eq_true rfl)⟩ ⟨(by first | omega | (show cl + 0 ≤ 600000; omega) | (show cl + 0 + 0 ≤ 600000; omega) | (show cl + 0 + 0 + 0 ≤ 600000; omega)), (by first | omega | (show sl + 0 ≤ 7302249; omega) | (show sl + 0 + 0 ≤ 7302249; omega) | (show sl + 0 + 0 + 0 ≤ 7302249; omega))⟩ dL_law_117) hS (wa_sub hD (fun q hq => hA q (Nat.le_trans hS.1 hq))) rfl (fun locs hS => ?_)
  rw [show (a_person v (0 : Int32) (3 : Int32)) = (v_faultO v 0) from pe_3 hR (p := 0) (by have := (val_2 hR).2.1; omega)]
  refine lv_iload S.1 S.2.1 dL_law_120 (lv_at hl 0 rfl) ?_
  refine lv_icmp_lt (tgt := 129) S.1 S.2.1 dL_law_122 (by decide) (fun z9 => absurd z9 (Int32.not_lt.mpr hfa)) (fun _ => ?_)
  refine lv_iconst (v := 1) S.1 S.2.1 dL_law_125 (by decide) ?_
  refine lv_goto (tgt := 130) S.1 S.2.1 dL_law_126 (by decide) ?_
  refine lv_istore_n (lv' := [(2, .int 1), (6, .int fa), (5, .int (nI k)), (4, .ref (α 0)), (3, .int (nI i)), (1, .ref qa), (0, .ref sb)]) S.1 S.2.1 dL_law_130 rfl hl (by decide) rfl (fun ls hl => ?_)
  refine lv_iinc (v := (nI (k + 1))) (lv' := [(5, .int (nI (k + 1))), (2, .int 1), (6, .int fa), (4, .ref (α 0)), (3, .int (nI i)), (1, .ref qa), (0, .ref sb)]) S.1 S.2.1 dL_law_131 hl (k := 2) rfl ((nI_succ k).symm) (by decide) rfl (fun ls hl => ?_)
  refine lv_goto (tgt := 77) S.1 S.2.1 dL_law_134 (by decide) ?_
  refine W.more (cells' := cl) (slots' := sl) ?_ (by show _ ≤ cl; omega) (by show _ ≤ sl; omega)
  exact kk hP hD hS hB hQ hR hX hSV (lv_sub hl [0, 3, 4, 1, 5, 6] rfl)
set_option maxHeartbeats 4000000 in
set_option maxRecDepth 100000 in
theorem la_k {s0 : State} {N0 : Nat} (hN0 : N0 ≤ 100) (hcl : cl ≤ 100000) (hsl : sl ≤ 2000000) (kk : ∀ {s : State} {u : va_W} {v : VT} {y : Int32} {N : Nat} {H : Heap} {locs : List Loc} {ls : Array Slot}, CallFix pg mi co cL_law 8 s ar lw_all RL → (va_K D vwCl (gTys D) s) → (EV D A s s.heap) → (∀ q, s.heap.size ≤ q → A q) → (DGf A s s.heap) → (CN s) → (Tp s) → (∀ (s : State) (d : Drawn), Tp s → Tp (s.setDrawn d)) → s0.drawn.sameBut s.drawn lw_cs → va_P D vwCl u H → va_D A u → va_S A s.heap H locs → OB D α u v → QW D 234 u qa y → RA N P B Q v → EX P v → SVI P B ms v → N ≤ N0 + 24 → lv_has ls 8 [(4, .ref (α 0)), (3, .int (nI i)), (2, .int 1), (1, .ref qa), (0, .ref sb)] → W pg l en ({ frames := 17, cells := 600000, slots := 7302249, locals := 700 } : Room) s mi ar below me co H locs (cl) (sl) Z (F0 mi 137 ls [])) (r : Nat) (S : CallFix pg mi co cL_law 8 s ar lw_all RL) (hK : va_K D vwCl (gTys D) s) (hE : EV D A s s.heap) (hA : ∀ q, s.heap.size ≤ q → A q) (hG : DGf A s s.heap) (hC : CN s) (hTp : Tp s) (hTd : ∀ (s : State) (d : Drawn), Tp s → Tp (s.setDrawn d)) (hD0 : s0.drawn.sameBut s.drawn lw_cs) {k : Nat} (hP : va_P D vwCl u H) (hD : va_D A u) (hS : va_S A s.heap H locs) (hB : OB D α u v) (hQ : QW D 234 u qa y) (hR : RA N P B Q v) (hX : EX P v) (hSV : SVI P B ms v) (hN : N ≤ N0 + k) (hl : lv_has ls 8 [(5, .int (nI k)), (4, .ref (α 0)), (3, .int (nI i)), (2, .int 1), (1, .ref qa), (0, .ref sb)]) (hk : k + r = 24) : W pg l en ({ frames := 17, cells := 600000, slots := 7302249, locals := 700 } : Room) s mi ar below me co H locs (cl) (sl) Z (F0 mi 77 ls []) := by
  induction r generalizing s k v u y N H locs ls with
  | zero =>
    have hk : k = 24 := hk
    subst hk
    refine lv_iload S.1 S.2.1 dL_law_77 (lv_at hl 0 rfl) ?_
    refine lv_bipush (v := 24) S.1 S.2.1 dL_law_79 (by decide) ?_
    refine lv_icmp_ge (tgt := 137) S.1 S.2.1 dL_law_81 (by decide) (fun _ => ?_) (fun z9 => absurd (Int32.le_refl _) z9)
    refine W.more (cells' := cl) (slots' := sl) ?_ (by show _ ≤ cl; omega) (by show _ ≤ sl; omega)
    exact kk S hK hE hA hG hC hTp hTd hD0 hP hD hS hB hQ hR hX hSV (by omega) (lv_sub hl [1, 2, 3, 4, 5] rfl)
  | succ r ih =>
    refine lv_iload S.1 S.2.1 dL_law_77 (lv_at hl 0 rfl) ?_
    refine lv_bipush (v := 24) S.1 S.2.1 dL_law_79 (by decide) ?_
    refine lv_icmp_ge (tgt := 137) S.1 S.2.1 dL_law_81 (by decide) (fun z9 => absurd z9 (fun z9 => absurd ((nI_leI (a := 24) (by decide) (by omega)).mp z9) (by omega))) (fun _ => ?_)
    refine lv_iload_n S.1 S.2.1 dL_law_84 rfl (lv_at hl 3 rfl) ?_
    refine lv_if_eq (tgt := 137) S.1 S.2.1 dL_law_85 (by decide) (fun z9 => absurd z9 (by decide)) (fun _ => ?_)
    refine lv_aload S.1 S.2.1 dL_law_88 (lv_at hl 1 rfl) ?_
    refine lv_iconst (v := 0) S.1 S.2.1 dL_law_90 (by decide) ?_
    refine lv_iconst (v := 3) S.1 S.2.1 dL_law_91 (by decide) ?_
    refine x_aftR (st1 := [.int (a_person v (0 : Int32) (3 : Int32))]) (x_V0 (As := [.int 0, .int 3]) (rest := []) S mi_X11_person qw463 (k_person l D (va_A u H.size) u α (0 : Int32) (3 : Int32) hB) hK hP (wd_own hD) (hE.own hS hD hA) (hB.recv hK hP) rfl rfl hl.1 (Nat.le_of_ble_eq_true rfl) rfl rfl ⟨(Nat.le_of_ble_eq_true rfl), (Nat.le_of_ble_eq_true rfl)⟩ ⟨(by first | omega | (show cl + 0 ≤ 600000; omega) | (show cl + 0 + 0 ≤ 600000; omega) | (show cl + 0 + 0 + 0 ≤ 600000; omega)), (by first | omega | (show sl + 0 ≤ 7302249; omega) | (show sl + 0 + 0 ≤ 7302249; omega) | (show sl + 0 + 0 + 0 ≤ 7302249; omega))⟩ dL_law_92) hS (wa_sub hD (fun q hq => hA q (Nat.le_trans hS.1 hq))) rfl (fun locs hS => ?_)
    rw [show (a_person v (0 : Int32) (3 : Int32)) = (v_faultO v 0) from pe_3 hR (p := 0) (by have := (val_2 hR).2.1; omega)]
    refine lv_istore (lv' := [(6, .int (v_faultO v 0)), (5, .int (nI k)), (4, .ref (α 0)), (3, .int (nI i)), (2, .int 1), (1, .ref qa), (0, .ref sb)]) S.1 S.2.1 dL_law_95 hl (by decide) rfl (fun ls hl => ?_)
    refine lv_aload S.1 S.2.1 dL_law_97 (lv_at hl 2 rfl) ?_
    refine lv_aload_n S.1 S.2.1 dL_law_99 rfl (lv_at hl 5 rfl) ?_
    refine x_ownG (x_St0 (As := [.ref (α 0), .ref qa]) (rest := []) S ms_L_acts qw1088 (l_acts l D (va_A u H.size) u α hR (by omega) (by rw [(val_2 hR).1]; exact nz_nI (by have := (val_2 hR).2; omega) (by have := (val_2 hR).2; omega)) hB hQ) hK hP (wd_own hD) (hE.own hS hD hA) rfl rfl hl.1 (Nat.le_of_ble_eq_true rfl) rfl rfl ⟨(Nat.le_of_ble_eq_true rfl), (Nat.le_of_ble_eq_true rfl)⟩ ⟨(by first | omega | (show cl + 0 ≤ 600000; omega) | (show cl + 0 + 0 ≤ 600000; omega) | (show cl + 0 + 0 + 0 ≤ 600000; omega)), (by first | omega | (show sl + 0 ≤ 7302249; omega) | (show sl + 0 + 0 ≤ 7302249; omega) | (show sl + 0 + 0 + 0 ≤ 7302249; omega))⟩ dL_law_100) hS hD hA (fun V H locs hq hS hown => ?_)
    obtain ⟨x1, v1, u1, y1, rfl, hact, hB, hQ, hP, hD1⟩ := hq
    obtain ⟨hD, -⟩ := hown u1 hD1
    clear hown hD1
    obtain ⟨hR1, hX1, e21, -, hfa, -⟩ := act_ok hR (by omega) hX hact
    have hSV1 := hSV.same e21
    clear hact
    refine lv_istore (lv' := [(7, .int x1), (6, .int (v_faultO v 0)), (5, .int (nI k)), (4, .ref (α 0)), (3, .int (nI i)), (2, .int 1), (1, .ref qa), (0, .ref sb)]) S.1 S.2.1 dL_law_103 hl (by decide) rfl (fun ls hl => ?_)
    refine lv_aload S.1 S.2.1 dL_law_105 (lv_at hl 3 rfl) ?_
    obtain ⟨u, hue⟩ : ∃ u, u = u1 := ⟨_, rfl⟩
    rw [← hue] at hP hD hB hQ
    clear hue
    refine x_ownQD (st1 := [.int 1]) (x_StD0 (As := [.ref (α 0)]) (rest := []) S ms_L_stands qw1302 (l_stands l D (va_A u H.size) u α hR1 (by omega) (stf_ok hR1 (by omega) hX1) hB) hK hP (wd_own hD) (hE.own hS hD hA) rfl rfl hl.1 (Nat.le_of_ble_eq_true rfl) rfl rfl ⟨(Nat.le_of_ble_eq_true rfl), (Nat.le_of_ble_eq_true rfl)⟩ ⟨(by first | omega | (show cl + 0 ≤ 600000; omega) | (show cl + 0 + 0 ≤ 600000; omega) | (show cl + 0 + 0 + 0 ≤ 600000; omega)), (by first | omega | (show sl + 0 ≤ 7302249; omega) | (show sl + 0 + 0 ≤ 7302249; omega) | (show sl + 0 + 0 + 0 ≤ 7302249; omega))⟩ dL_law_107) hS hD hA rfl (fun d1 u H locs hd1 hq hP hD hS hkp => ?_)
    obtain ⟨hB, hsm⟩ := hq
    have hQ := hQ.same hsm (Nat.le_refl _)
    clear hkp hsm
    refine W.more (cells' := cl) (slots' := sl) ?_ (by show _ ≤ cl; omega) (by show _ ≤ sl; omega)
    exact la_s (S.drawn d1) (va_K.moved (Vm.Alike.refl s.vm) hK) (EV.same (s := s) hE rfl) hA (stX_dg _ _ _ (Vm.Alike.refl s.vm) hG) (stX_cn _ _ H (Vm.Alike.refl s.vm) hC) (hTd s d1 hTp) hTd hcl hsl hP hD hS hB hQ hR1 hX1 hSV1 (by omega) hfa (fun {u} {H} {locs} {ls} hP hD hS hB hQ hR hX hSV hl => ih (S.drawn d1) (va_K.moved (Vm.Alike.refl s.vm) hK) (EV.same (s := s) hE rfl) hA (stX_dg _ _ _ (Vm.Alike.refl s.vm) hG) (stX_cn _ _ H (Vm.Alike.refl s.vm) hC) (hTd s d1 hTp) (hD0.trans hd1) (k := k + 1) hP hD hS hB hQ hR hX hSV (by omega) hl (by omega)) (lv_sub hl [1, 2, 3, 4, 5, 6, 7] rfl)
end LAWA
