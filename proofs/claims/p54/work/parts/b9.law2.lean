/-! THE LAW: behind the acts; a village's beginning -/
def qC (D : va_G) (qa : Nat) (f : Nat → Int32) : va_W := [(qa, .inl (D.1 100, 8, .inl f))]
theorem qC_of {D : va_G} {A : Nat → Prop} {w : va_W} {k qa : Nat} {y : Int32} {H : Heap} (hQ : QW D k w qa y) (hP : va_P D vwCl w H) (hD : va_D A w) : ∃ f, va_P D vwCl (qC D qa f) H ∧ va_D A (qC D qa f) := by
  obtain ⟨f, h1, -⟩ := hQ
  refine ⟨f, fun j q hj => ?_, fun i j p q hi hj _ => ?_, fun j q hj => ?_⟩
  · have hz : j = 0 := by have := (List.getElem?_eq_some_iff.mp hj).1; simp only [qC, List.length_singleton] at this; omega
    subst hz
    cases hj
    exact hP k _ h1
  · have hz : i = 0 := by have := (List.getElem?_eq_some_iff.mp hi).1; simp only [qC, List.length_singleton] at this; omega
    have hz2 : j = 0 := by have := (List.getElem?_eq_some_iff.mp hj).1; simp only [qC, List.length_singleton] at this; omega
    omega
  · have hz : j = 0 := by have := (List.getElem?_eq_some_iff.mp hj).1; simp only [qC, List.length_singleton] at this; omega
    subst hz
    cases hj
    exact hD.2 k _ h1
section LAWB
variable {pg : Program} {l : Launch} {en : Env} {s : State} {mi : MethodId} {ar : Array Value} {below : List Frame} {me : Method} {co : Code} {Z : State → Prop} {H : Heap} {locs : List Loc} {ls : Array Slot} {D : va_G} {A : Nat → Prop} {α : Nat → Nat} {u : va_W} {v : VT} {N P B Q qa sb i cl sl : Nat} {y : Int32} {ms : List Nat} {Tp : State → Prop}
set_option maxHeartbeats 4000000 in
set_option maxRecDepth 100000 in
theorem la_u {s0 : State} (hcl : cl ≤ 100000) (hsl : sl ≤ 2000000) (kk : ∀ {s : State} {f : Nat → Int32} {H : Heap} {locs : List Loc} {ls : Array Slot}, CallFix pg mi co cL_law 8 s ar lw_all RL → (va_K D vwCl (gTys D) s) → (EV D A s s.heap) → (∀ q, s.heap.size ≤ q → A q) → (DGf A s s.heap) → (CN s) → (Tp s) → (∀ (s : State) (d : Drawn), Tp s → Tp (s.setDrawn d)) → s0.drawn.sameBut s.drawn lw_cs → (va_P D vwCl (qC D qa f) H) → (va_D A (qC D qa f)) → (va_S A s.heap H locs) → lv_has ls 8 [(3, .int (nI (i + 1))), (2, .int 1), (1, .ref qa), (0, .ref sb)] → W pg l en ({ frames := 17, cells := 600000, slots := 7302249, locals := 700 } : Room) s mi ar below me co H locs (cl + 18200) (sl + 710000) Z (F0 mi 9 ls [])) (S : CallFix pg mi co cL_law 8 s ar lw_all RL) (hK : va_K D vwCl (gTys D) s) (hE : EV D A s s.heap) (hA : ∀ q, s.heap.size ≤ q → A q) (hG : DGf A s s.heap) (hC : CN s) (hTp : Tp s) (hTd : ∀ (s : State) (d : Drawn), Tp s → Tp (s.setDrawn d)) (hD0 : s0.drawn.sameBut s.drawn lw_cs) (hP : va_P D vwCl u H) (hD : va_D A u) (hS : va_S A s.heap H locs) (hB : OB D α u v) (hQ : QW D 234 u qa y) (hR : RA N P B Q v) (hX : EX P v) (hSV : SVI P B ms v) (hN : N ≤ 550) (hl : lv_has ls 8 [(4, .ref (α 0)), (3, .int (nI i)), (2, .int 1), (1, .ref qa), (0, .ref sb)]) : W pg l en ({ frames := 17, cells := 600000, slots := 7302249, locals := 700 } : Room) s mi ar below me co H locs (cl + 10600) (sl + 420000) Z (F0 mi 147 ls [.int 1]) := by
  refine lv_if_eq (tgt := 163) S.1 S.2.1 dL_law_147 (by decide) (fun z9 => absurd z9 (by decide)) (fun _ => ?_)
  refine lv_aload S.1 S.2.1 dL_law_150 (lv_at hl 0 rfl) ?_
  refine lv_aload_n S.1 S.2.1 dL_law_152 rfl (lv_at hl 3 rfl) ?_
  refine x_ownG (x_St (As := [.ref (α 0), .ref qa]) (rest := []) S ms_L_undone qw1597 (l_undone l D (va_A u H.size) u α hR (by omega) hX hSV hB hQ (nH := H.size) (fun q hq => .inr hq)) (stX_and stX_sz (stX_and stX_cn stX_dg)) hK hP (wd_own hD) (hE.own hS hD hA) ⟨Nat.le_refl _, hC, hG.own hS hD hA⟩ rfl rfl hl.1 (Nat.le_of_ble_eq_true rfl) rfl rfl ⟨(Nat.le_of_ble_eq_true rfl), (Nat.le_of_ble_eq_true rfl)⟩ ⟨(by show cl + 10600 + 7600 ≤ 600000; omega), (by show sl + 420000 + 290000 ≤ 7302249; omega)⟩ dL_law_153) hS hD hA (fun V H locs hq hS hown => ?_)
  obtain ⟨u1, y1, rfl, hQ, hP, hD1⟩ := hq
  obtain ⟨hD, -⟩ := hown u1 hD1
  clear hown hD1
  obtain ⟨f, hP, hD⟩ := qC_of hQ hP hD
  refine lv_if_eq (tgt := 163) S.1 S.2.1 dL_law_156 (by decide) (fun z9 => absurd z9 (by decide)) (fun _ => ?_)
  refine lv_iconst (v := 1) S.1 S.2.1 dL_law_159 (by decide) ?_
  refine lv_goto (tgt := 164) S.1 S.2.1 dL_law_160 (by decide) ?_
  refine lv_istore_n (lv' := [(2, .int 1), (4, .ref (α 0)), (3, .int (nI i)), (1, .ref qa), (0, .ref sb)]) S.1 S.2.1 dL_law_164 rfl hl (by decide) rfl (fun ls hl => ?_)
  refine lv_iinc (v := (nI (i + 1))) (lv' := [(3, .int (nI (i + 1))), (2, .int 1), (4, .ref (α 0)), (1, .ref qa), (0, .ref sb)]) S.1 S.2.1 dL_law_165 hl (k := 2) rfl ((nI_succ i).symm) (by decide) rfl (fun ls hl => ?_)
  refine lv_goto (tgt := 9) S.1 S.2.1 dL_law_168 (by decide) ?_
  refine W.more (cells' := cl + 18200) (slots' := sl + 710000) ?_ (by omega) (by omega)
  exact kk S hK hE hA hG hC hTp hTd hD0 hP hD hS (lv_sub hl [0, 1, 3, 4] rfl)
set_option maxHeartbeats 4000000 in
set_option maxRecDepth 100000 in
theorem la_f {s0 : State} (hcl : cl ≤ 100000) (hsl : sl ≤ 2000000) (kk : ∀ {s : State} {f : Nat → Int32} {H : Heap} {locs : List Loc} {ls : Array Slot}, CallFix pg mi co cL_law 8 s ar lw_all RL → (va_K D vwCl (gTys D) s) → (EV D A s s.heap) → (∀ q, s.heap.size ≤ q → A q) → (DGf A s s.heap) → (CN s) → (Tp s) → (∀ (s : State) (d : Drawn), Tp s → Tp (s.setDrawn d)) → s0.drawn.sameBut s.drawn lw_cs → (va_P D vwCl (qC D qa f) H) → (va_D A (qC D qa f)) → (va_S A s.heap H locs) → lv_has ls 8 [(3, .int (nI (i + 1))), (2, .int 1), (1, .ref qa), (0, .ref sb)] → W pg l en ({ frames := 17, cells := 600000, slots := 7302249, locals := 700 } : Room) s mi ar below me co H locs (cl + 18200) (sl + 710000) Z (F0 mi 9 ls [])) (S : CallFix pg mi co cL_law 8 s ar lw_all RL) (hK : va_K D vwCl (gTys D) s) (hE : EV D A s s.heap) (hA : ∀ q, s.heap.size ≤ q → A q) (hG : DGf A s s.heap) (hC : CN s) (hTp : Tp s) (hTd : ∀ (s : State) (d : Drawn), Tp s → Tp (s.setDrawn d)) (hD0 : s0.drawn.sameBut s.drawn lw_cs) (hP : va_P D vwCl u H) (hD : va_D A u) (hS : va_S A s.heap H locs) (hB : OB D α u v) (hQ : QW D 234 u qa y) (hR : RA N P B Q v) (hX : EX P v) (hSV : SVI P B ms v) (hN : N ≤ 300) (hl : lv_has ls 8 [(4, .ref (α 0)), (3, .int (nI i)), (2, .int 1), (1, .ref qa), (0, .ref sb)]) : W pg l en ({ frames := 17, cells := 600000, slots := 7302249, locals := 700 } : Room) s mi ar below me co H locs (cl) (sl) Z (F0 mi 137 ls []) := by
  refine lv_iload_n S.1 S.2.1 dL_law_137 rfl (lv_at hl 2 rfl) ?_
  refine lv_if_eq (tgt := 163) S.1 S.2.1 dL_law_138 (by decide) (fun z9 => absurd z9 (by decide)) (fun _ => ?_)
  refine lv_aload S.1 S.2.1 dL_law_141 (lv_at hl 0 rfl) ?_
  refine lv_aload_n S.1 S.2.1 dL_law_143 rfl (lv_at hl 3 rfl) ?_
  refine x_ownGD (x_StD (As := [.ref (α 0), .ref qa]) (rest := []) S ms_L_foretold qw1395 (l_foretold l D (va_A u H.size) u α hR (by omega) hX hB hQ (nH := H.size) (fun q hq => .inr hq)) (stX_and stX_sz (stX_and stX_cn stX_dg)) hK hP (wd_own hD) (hE.own hS hD hA) ⟨Nat.le_refl _, hC, hG.own hS hD hA⟩ rfl rfl hl.1 (Nat.le_of_ble_eq_true rfl) rfl rfl ⟨(Nat.le_of_ble_eq_true rfl), (Nat.le_of_ble_eq_true rfl)⟩ ⟨(by show cl + 10600 ≤ 600000; omega), (by show sl + 420000 ≤ 7302249; omega)⟩ dL_law_144) hS hD hA (fun d1 V H locs hd1 hq hS hown => ?_)
  obtain ⟨v1, u1, y1, N1, rfl, hB, hR, hN1, hX, e1, e2, hQ, hP, hD1⟩ := hq
  obtain ⟨hD, -⟩ := hown u1 hD1
  clear hown hD1
  exact la_u hcl hsl kk (S.drawn d1) (va_K.moved (Vm.Alike.refl s.vm) hK) (EV.same (s := s) hE rfl) hA (stX_dg _ _ _ (Vm.Alike.refl s.vm) hG) (stX_cn _ _ H (Vm.Alike.refl s.vm) hC) (hTd s d1 hTp) hTd (hD0.trans hd1) hP hD hS hB hQ hR hX (hSV.same e2) (by omega) (lv_sub hl [0, 1, 2, 3, 4] rfl)
theorem op_0 {N P B Q : Nat} {v : VT} (hR : RA N P B Q v) (hv : v_votes v = 0) : a_open v 3 = 0 := by
  have ho : tb (v_isOpen v) = false := by
    rcases Bool.eq_false_or_eq_true (tb (v_isOpen v)) with c | c
    · exact absurd hv ((ra_sc hR).2.2.1 c)
    · exact c
  rw [(lf_open_2 v 3 (by decide) (by decide) ho).1, hv]
  unfold f_X10_beginVote
  show f_X10_latestVote (0 + 1) = 0
  decide
end LAWB
