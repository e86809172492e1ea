/-! THE LAW: the loop of two villages -/
section LAWD
variable {pg : Program} {l : Launch} {en : Env} {s : State} {mi : MethodId} {ar : Array Value} {below : List Frame} {me : Method} {co : Code} {Z : State → Prop} {H : Heap} {locs : List Loc} {ls : Array Slot} {D : va_G} {A : Nat → Prop} {α : Nat → Nat} {u : va_W} {v : VT} {N P B Q qa sb i cl sl : Nat} {y : Int32} {ms : List Nat} {Tp : State → Prop}
variable {L : Nat} {xs : Nat → Int32}
set_option maxHeartbeats 4000000 in
set_option maxRecDepth 100000 in
theorem la_r {s0 : State} (hcl : cl ≤ 90000) (hsl : sl ≤ 1900000) (hL : L < 2147483648) (hi : i < 2) (hTx : ∀ s : State, Tp s → va_X sb L xs s s.heap ∧ sb < s.heap.size ∧ ¬ A sb) (kk : ∀ {s : State} {f : Nat → Int32} {H : Heap} {locs : List Loc} {ls : Array Slot}, CallFix pg mi co cL_law 8 s ar lw_all RL → (va_K D vwCl (gTys D) s) → (EV D A s s.heap) → (∀ q, s.heap.size ≤ q → A q) → (DGf A s s.heap) → (CN s) → (Tp s) → (∀ (s : State) (d : Drawn), Tp s → Tp (s.setDrawn d)) → s0.drawn.sameBut s.drawn lw_cs → (va_P D vwCl (qC D qa f) H) → (va_D A (qC D qa f)) → (va_S A s.heap H locs) → lv_has ls 8 [(3, .int (nI (i + 1))), (2, .int 1), (1, .ref qa), (0, .ref sb)] → W pg l en ({ frames := 17, cells := 600000, slots := 7302249, locals := 700 } : Room) s mi ar below me co H locs (cl + 434 + 18200) (sl + 11570 + 710000) Z (F0 mi 9 ls [])) (S : CallFix pg mi co cL_law 8 s ar lw_all RL) (hK : va_K D vwCl (gTys D) s) (hE : EV D A s s.heap) (hA : ∀ q, s.heap.size ≤ q → A q) (hG : DGf A s s.heap) (hC : CN s) (hTp : Tp s) (hTd : ∀ (s : State) (d : Drawn), Tp s → Tp (s.setDrawn d)) (hD0 : s0.drawn.sameBut s.drawn lw_cs) {f : Nat → Int32} (hP : va_P D vwCl (qC D qa f) H) (hD : va_D A (qC D qa f)) (hS : va_S A s.heap H locs) (hl : lv_has ls 8 [(3, .int (nI i)), (2, .int 1), (1, .ref qa), (0, .ref sb)]) : W pg l en ({ frames := 17, cells := 600000, slots := 7302249, locals := 700 } : Room) s mi ar below me co H locs (cl) (sl) Z (F0 mi 9 ls []) := by
  obtain ⟨hXs, hbl, hbA⟩ := hTx s hTp
  refine lv_iload_n S.1 S.2.1 dL_law_9 rfl (lv_at hl 0 rfl) ?_
  refine lv_iconst (v := 2) S.1 S.2.1 dL_law_10 (by decide) ?_
  refine lv_icmp_ge (tgt := 171) S.1 S.2.1 dL_law_11 (by decide) (fun z9 => absurd z9 (fun z9 => absurd ((nI_leI (a := 2) (by decide) (by omega)).mp z9) (by omega))) (fun _ => ?_)
  refine lv_iload_n S.1 S.2.1 dL_law_14 rfl (lv_at hl 1 rfl) ?_
  refine lv_if_eq (tgt := 171) S.1 S.2.1 dL_law_15 (by decide) (fun z9 => absurd z9 (by decide)) (fun _ => ?_)
  refine lv_aload_n S.1 S.2.1 dL_law_18 rfl (lv_at hl 2 rfl) ?_
  refine lv_bipush (v := 7) S.1 S.2.1 dL_law_19 (by decide) ?_
  refine lv_iload_n S.1 S.2.1 dL_law_21 rfl (lv_at hl 0 rfl) ?_
  refine lv_aload_n S.1 S.2.1 dL_law_22 rfl (lv_at hl 3 rfl) ?_
  refine va_slen S.1 S.2.1 hXs hbl hbA hS dL_law_23 ?_
  have J : ∀ (x : Int32) (ls : Array Slot), lv_has ls 8 [(3, .int (nI i)), (2, .int 1), (1, .ref qa), (0, .ref sb)] → W pg l en ({ frames := 17, cells := 600000, slots := 7302249, locals := 700 } : Room) s mi ar below me co H locs (cl) (sl) Z (F0 mi 37 ls [.int x, .int 7, .ref qa]) := fun x ls hl => by
    refine g_iast (q0 := 0) S hK hP hD hS (n := 8) (f := f) (a := qa) rfl (vin_d (by decide)) dL_law_37 (fun w1 H locs hw hP hD hS => ?_)
    have e1 : w1 = qC D qa (upd f 7 x) := by rw [hw]; rfl
    subst e1
    exact la_n hcl hsl kk S hK hE hA hG hC hTp hTd hD0 hP hD hS hl
  refine lv_icmp_ge (tgt := 33) S.1 S.2.1 dL_law_24 (by decide) (fun c => ?_) (fun c => ?_)
  · refine lv_bipush (v := 37) S.1 S.2.1 dL_law_33 (by decide) ?_
    refine lv_iload_n S.1 S.2.1 dL_law_35 rfl (lv_at hl 0 rfl) ?_
    refine lv_imul S.1 S.2.1 dL_law_36 ?_
    exact J _ _ hl
  · refine lv_aload_n S.1 S.2.1 dL_law_27 rfl (lv_at hl 3 rfl) ?_
    refine lv_iload_n S.1 S.2.1 dL_law_28 rfl (lv_at hl 0 rfl) ?_
    refine va_sld S.1 S.2.1 hXs hbl hbA hS (vin_of (by omega) (nI_pos (by omega)) c) dL_law_29 ?_
    refine lv_goto (tgt := 37) S.1 S.2.1 dL_law_30 (by decide) ?_
    exact J _ _ hl
set_option maxHeartbeats 4000000 in
set_option maxRecDepth 100000 in
theorem la_e (hcl : cl ≤ 600000) (hsl : sl ≤ 7302249) (hTe : ∀ s : State, Tp s → ∀ (H : Heap) (locs : List Loc) (ls : Array Slot), va_S A s.heap H locs → W pg l en ({ frames := 17, cells := 600000, slots := 7302249, locals := 700 } : Room) s mi ar below me co H locs 600000 7302249 Z (F0 mi 172 ls [.int 1])) (S : CallFix pg mi co cL_law 8 s ar lw_all RL) (hK : va_K D vwCl (gTys D) s) (hE : EV D A s s.heap) (hA : ∀ q, s.heap.size ≤ q → A q) (hG : DGf A s s.heap) (hC : CN s) (hTp : Tp s) (hTd : ∀ (s : State) (d : Drawn), Tp s → Tp (s.setDrawn d)) (hS : va_S A s.heap H locs) (hl : lv_has ls 8 [(3, .int (nI 2)), (2, .int 1), (1, .ref qa), (0, .ref sb)]) : W pg l en ({ frames := 17, cells := 600000, slots := 7302249, locals := 700 } : Room) s mi ar below me co H locs (cl) (sl) Z (F0 mi 9 ls []) := by
  refine lv_iload_n S.1 S.2.1 dL_law_9 rfl (lv_at hl 0 rfl) ?_
  refine lv_iconst (v := 2) S.1 S.2.1 dL_law_10 (by decide) ?_
  refine lv_icmp_ge (tgt := 171) S.1 S.2.1 dL_law_11 (by decide) (fun _ => ?_) (fun z9 => absurd (Int32.le_refl _) z9)
  refine lv_iload_n S.1 S.2.1 dL_law_171 rfl (lv_at hl 1 rfl) ?_
  refine W.more (cells' := 600000) (slots' := 7302249) ?_ (by omega) (by omega)
  exact hTe s hTp _ _ _ hS
end LAWD
