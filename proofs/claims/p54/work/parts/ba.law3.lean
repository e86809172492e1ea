/-! THE LAW: a village from its making to its first vote -/
theorem wp_swap {D : va_G} {cl : List vw_C} {u x : va_W} {H : Heap} (h : va_P D cl (u ++ x) H) : va_P D cl (x ++ u) H := (wp_right h).app (wp_left h)
theorem wd_swap {A : Nat → Prop} {u x : va_W} (h : va_D A (u ++ x)) : va_D A (x ++ u) := by
  have e : ∀ (i : Nat) (p : Nat × va_E), (x ++ u)[i]? = some p → (i < x.length ∧ (u ++ x)[u.length + i]? = some p) ∨ (x.length ≤ i ∧ i - x.length < u.length ∧ (u ++ x)[i - x.length]? = some p) := fun i p hi => by
    rcases Nat.lt_or_ge i x.length with z | z
    · rw [List.getElem?_append_left z] at hi
      exact .inl ⟨z, by rw [List.getElem?_append_right (Nat.le_add_right _ _), Nat.add_sub_cancel_left]; exact hi⟩
    · rw [List.getElem?_append_right z] at hi
      have z2 := (List.getElem?_eq_some_iff.mp hi).1
      exact .inr ⟨z, z2, by rw [List.getElem?_append_left z2]; exact hi⟩
  refine ⟨fun i j p q hi hj hpq => ?_, fun k q hk => ?_⟩
  · rcases e i p hi with ⟨a, b⟩ | ⟨a, b, c⟩ <;> rcases e j q hj with ⟨a', b'⟩ | ⟨a', b', c'⟩
    · have := h.1 _ _ p q b b' hpq; omega
    · have := h.1 _ _ p q b c' hpq; omega
    · have := h.1 _ _ p q c b' hpq; omega
    · have := h.1 _ _ p q c c' hpq; omega
  · rcases e k q hk with ⟨a, b⟩ | ⟨a, b, c⟩
    · exact h.2 _ q b
    · exact h.2 _ q c
theorem bc_nat {f : Nat → Int32} {n : Nat} {T : List Nat} (h : BC f n (T.map nI)) : n = T.length ∧ ∀ j, j < T.length → f j = nI (T.getD j 0) := by
  obtain ⟨h1, h2⟩ := h
  rw [List.length_map] at h1
  subst h1
  refine ⟨rfl, fun j hj => ?_⟩
  rw [h2 j hj, List.getElem?_map, List.getD_eq_getElem?_getD, List.getElem?_eq_getElem hj]
  rfl
section LAWC
variable {pg : Program} {l : Launch} {en : Env} {s : State} {mi : MethodId} {ar : Array Value} {below : List Frame} {me : Method} {co : Code} {Z : State → Prop} {H : Heap} {locs : List Loc} {ls : Array Slot} {D : va_G} {A : Nat → Prop} {α : Nat → Nat} {u : va_W} {v : VT} {N P B Q qa sb i cl sl : Nat} {y : Int32} {ms : List Nat} {Tp : State → Prop}
set_option maxHeartbeats 4000000 in
set_option maxRecDepth 100000 in
theorem la_n {s0 : State} (hcl : cl ≤ 90000) (hsl : sl ≤ 1900000) (kk : ∀ {s : State} {f : Nat → Int32} {H : Heap} {locs : List Loc} {ls : Array Slot}, CallFix pg mi co cL_law 8 s ar lw_all RL → (va_K D vwCl (gTys D) s) → (EV D A s s.heap) → (∀ q, s.heap.size ≤ q → A q) → (DGf A s s.heap) → (CN s) → (Tp s) → (∀ (s : State) (d : Drawn), Tp s → Tp (s.setDrawn d)) → s0.drawn.sameBut s.drawn lw_cs → (va_P D vwCl (qC D qa f) H) → (va_D A (qC D qa f)) → (va_S A s.heap H locs) → lv_has ls 8 [(3, .int (nI (i + 1))), (2, .int 1), (1, .ref qa), (0, .ref sb)] → W pg l en ({ frames := 17, cells := 600000, slots := 7302249, locals := 700 } : Room) s mi ar below me co H locs (cl + 434 + 18200) (sl + 11570 + 710000) Z (F0 mi 9 ls [])) (S : CallFix pg mi co cL_law 8 s ar lw_all RL) (hK : va_K D vwCl (gTys D) s) (hE : EV D A s s.heap) (hA : ∀ q, s.heap.size ≤ q → A q) (hG : DGf A s s.heap) (hC : CN s) (hTp : Tp s) (hTd : ∀ (s : State) (d : Drawn), Tp s → Tp (s.setDrawn d)) (hD0 : s0.drawn.sameBut s.drawn lw_cs) {f : Nat → Int32} (hP : va_P D vwCl (qC D qa f) H) (hD : va_D A (qC D qa f)) (hS : va_S A s.heap H locs) (hl : lv_has ls 8 [(3, .int (nI i)), (2, .int 1), (1, .ref qa), (0, .ref sb)]) : W pg l en ({ frames := 17, cells := 600000, slots := 7302249, locals := 700 } : Room) s mi ar below me co H locs (cl) (sl) Z (F0 mi 38 ls []) := by
  refine x_newSV S qw24 qw26 hK hP hD hE hS hA hl.1 (Nat.le_of_ble_eq_true rfl) ⟨(Nat.le_of_ble_eq_true rfl), (Nat.le_of_ble_eq_true rfl)⟩ ⟨(by show cl + 1 + 233 ≤ 600000; omega), (by show sl + 10 + 7360 ≤ 7302249; omega)⟩ dL_law_38 dL_law_41 dL_law_42 (fun H locs α x vx hBx hRx hxl hP hD hS hkp => ?_)
  clear hkp
  have hxg : 234 ≤ x.length := by omega
  have hQ0 : QW D 0 (qC D qa f ++ x) qa (f 7) := ⟨f, rfl, rfl⟩
  refine lv_astore (lv' := [(4, .ref (α 0)), (3, .int (nI i)), (2, .int 1), (1, .ref qa), (0, .ref sb)]) S.1 S.2.1 dL_law_45 hl (by decide) rfl (fun ls hl => ?_)
  refine lv_aload S.1 S.2.1 dL_law_47 (lv_at hl 0 rfl) ?_
  refine lv_aload_n S.1 S.2.1 dL_law_49 rfl (lv_at hl 3 rfl) ?_
  refine x_ownG (w := qC D qa f ++ x) (x_St (As := [.ref qa]) (rest := [.ref (α 0)]) S ms_L_setup qw837 (l_setup l D (va_A (qC D qa f ++ x) H.size) (qC D qa f ++ x) (k := 0) (nH := H.size) hQ0 (fun q hq => .inr hq)) (stX_and stX_sz (stX_and stX_cn stX_dg)) hK hP (wd_own hD) (hE.own hS hD hA) ⟨Nat.le_refl _, hC, hG.own hS hD hA⟩ rfl rfl hl.1 (Nat.le_of_ble_eq_true rfl) rfl rfl ⟨(Nat.le_of_ble_eq_true rfl), (Nat.le_of_ble_eq_true rfl)⟩ ⟨(by show cl + 1 + 233 + 160 ≤ 600000; omega), (by show sl + 10 + 7360 + 4000 ≤ 7302249; omega)⟩ dL_law_50) hS hD hA (fun V H locs hq hS hown => ?_)
  obtain ⟨a1, x9, n1, f1, w1, y1, P, B, ms, o, rfl, hV, hL1, hQ1, hs1, hP, hD1⟩ := hq
  obtain ⟨u1, rfl, hsu⟩ := w_sameK hs1 (by show 0 < 1; decide)
  have hT1 := st_own S.2.2.2.2 hK hP hD1
  have hP := wp_left hP
  obtain ⟨hD, -⟩ := hown (u1 ++ x) (wd_left hD1)
  clear hown hD1 hs1
  have hul : u1.length = 1 := hsu.1
  have hQ1 := hQ1.left (by omega)
  obtain ⟨en, hb1⟩ := bc_nat hL1
  rw [en] at hT1
  refine x_aft (x_St (As := [.ref (α 0), .ref a1]) (rest := []) S ms_L_loads qw518 (l_loads l D (va_A x H.size) x α hRx (by omega) hBx hxg (nH := H.size) (T := suT P B (mL ms) nmS nbS o) (fun q hq => .inr hq) hb1 hV rfl) (stX_and stX_sz stX_tx) hK (wp_right hP) (wd_own (wd_right hD)) (hE.own hS (wd_right hD) hA) ⟨Nat.le_refl _, hT1.narrow wa_right⟩ rfl rfl hl.1 (Nat.le_of_ble_eq_true rfl) rfl rfl ⟨(Nat.le_of_ble_eq_true rfl), (Nat.le_of_ble_eq_true rfl)⟩ ⟨(by show cl + 1 + 233 + 160 + 40 ≤ 600000; omega), (by show sl + 10 + 7360 + 4000 + 200 ≤ 7302249; omega)⟩ dL_law_53) hS (wa_sub (wd_right hD) (fun q hq => hA q (Nat.le_trans hS.1 hq))) (fun V H locs hq hz hk hS1 => ?_)
  obtain ⟨vx1, x1, Nx, Qx, rfl, hBx, hLD, hNx, hRx, hxg, hsx, hPx, hDx⟩ := hq
  obtain ⟨hP, hD⟩ := w_join hP hD (fun q hq => hA q (Nat.le_trans hS.1 hq)) hk hPx hDx
  have hS := hS1
  clear hk hz hS1 hPx hDx
  have hx1 : x1.length = 234 := hsx.1.trans hxl
  have hP := wp_swap hP
  have hD := wd_swap hD
  have hB := hBx.app (x := u1) hxg
  have hQ : QW D 234 (x1 ++ u1) qa y1 := by
    obtain ⟨g, g1, g2⟩ := hQ1
    exact ⟨g, by rw [List.getElem?_append_right (by omega), hx1]; exact g1, g2⟩
  have hR := hRx
  have hX := ld_ex hLD hV.2.1.2
  have hSV : SVI P B ms vx1 := by
    have hB3 : B ≤ 3 := by
      rcases Nat.eq_zero_or_pos B with z | z
      · omega
      · have h9 := (hV.2.2.2.2.2.1 (B - 1) (by omega)).2
        have h8 : 24 + (B - 1) ≤ 26 := h9
        omega
    have hP19 := hV.2.1.2
    exact ⟨hV.1, by omega, hB3, hLD.2.2.1, hLD.2.2.2.1, hLD.2.2.2.2.1⟩
  obtain ⟨u, hue⟩ : ∃ u, u = x1 ++ u1 := ⟨_, rfl⟩
  rw [← hue] at hP hD hB hQ
  clear hue
  refine lv_if_eq (tgt := 72) S.1 S.2.1 dL_law_56 (by decide) (fun z9 => absurd z9 (by decide)) (fun _ => ?_)
  refine lv_aload S.1 S.2.1 dL_law_59 (lv_at hl 0 rfl) ?_
  refine lv_iconst (v := 3) S.1 S.2.1 dL_law_61 (by decide) ?_
  refine x_ownQ (st1 := [.int (a_open vx1 (3 : Int32))]) (x_V0 (As := [.int 3]) (rest := []) S mi_X11_open qw389 (k_open l D (va_A u H.size) u α hR (by omega) (3 : Int32) hB) hK hP (wd_own hD) (hE.own hS hD hA) (hB.recv hK hP) rfl rfl hl.1 (Nat.le_of_ble_eq_true rfl) rfl rfl ⟨(Nat.le_of_ble_eq_true rfl), (Nat.le_of_ble_eq_true rfl)⟩ ⟨(by show cl + 1 + 233 + 160 + 40 + 0 ≤ 600000; omega), (by show sl + 10 + 7360 + 4000 + 200 + 0 ≤ 7302249; omega)⟩ dL_law_62) hS hD hA rfl (fun u H locs hq hP hD hS hkp => ?_)
  obtain ⟨hB, hsm⟩ := hq
  clear hkp
  have hQ := hQ.same hsm (Nat.le_refl _)
  clear hsm
  have sp1 := sp_open hR (by omega) hX 3
  rw [op_0 hR hLD.2.2.2.2.2.2.2.2.1]
  obtain ⟨hR1, hX1, e21, -⟩ := sp1
  have hSV1 := hSV.same e21
  generalize n_open vx1 3 = v2 at hB hR1 hX1 hSV1
  refine lv_if_ne (tgt := 72) S.1 S.2.1 dL_law_65 (by decide) (fun z9 => absurd (rfl) z9) (fun _ => ?_)
  refine lv_iconst (v := 1) S.1 S.2.1 dL_law_68 (by decide) ?_
  refine lv_goto (tgt := 73) S.1 S.2.1 dL_law_69 (by decide) ?_
  refine lv_istore_n (lv' := [(2, .int 1), (4, .ref (α 0)), (3, .int (nI i)), (1, .ref qa), (0, .ref sb)]) S.1 S.2.1 dL_law_73 rfl hl (by decide) rfl (fun ls hl => ?_)
  refine lv_iconst (v := 0) S.1 S.2.1 dL_law_74 (by decide) ?_
  refine lv_istore (lv' := [(5, .int 0), (2, .int 1), (4, .ref (α 0)), (3, .int (nI i)), (1, .ref qa), (0, .ref sb)]) S.1 S.2.1 dL_law_75 hl (by decide) rfl (fun ls hl => ?_)
  refine W.more (cells' := cl + 434) (slots' := sl + 11570) ?_ (by omega) (by omega)
  exact la_k (s0 := s0) (N0 := 43) (by decide) (cl := cl + 434) (sl := sl + 11570) (by omega) (by omega) (fun {s} {u} {v} {y} {N} {H} {locs} {ls} S hK hE hA hG hC hTp hTd hD0 hP hD hS hB hQ hR hX hSV hN hl => la_f (s0 := s0) (cl := cl + 434) (sl := sl + 11570) (by omega) (by omega) kk S hK hE hA hG hC hTp hTd hD0 hP hD hS hB hQ hR hX hSV (by omega) hl) 24 S hK hE hA hG hC hTp hTd hD0 (k := 0) hP hD hS hB hQ hR1 hX1 hSV1 (by omega) (lv_sub hl [0, 2, 3, 1, 4, 5] rfl) rfl
end LAWC
