/-! THE LAW: from its entry -/
section LAWE
variable {pg : Program} {l : Launch} {en : Env} {s : State} {mi : MethodId} {ar : Array Value} {below : List Frame} {me : Method} {co : Code} {Z : State → Prop} {H : Heap} {locs : List Loc} {ls : Array Slot} {D : va_G} {A : Nat → Prop} {α : Nat → Nat} {u : va_W} {v : VT} {N P B Q qa sb i cl sl : Nat} {y : Int32} {ms : List Nat} {Tp : State → Prop}
variable {L : Nat} {xs : Nat → Int32}
set_option maxHeartbeats 4000000 in
set_option maxRecDepth 100000 in
theorem la_0 (hL : L < 2147483648) (hTx : ∀ s : State, Tp s → va_X sb L xs s s.heap ∧ sb < s.heap.size ∧ ¬ A sb) (hTe : ∀ s : State, Tp s → ∀ (H : Heap) (locs : List Loc) (ls : Array Slot), va_S A s.heap H locs → W pg l en ({ frames := 17, cells := 600000, slots := 7302249, locals := 700 } : Room) s mi ar below me co H locs 600000 7302249 Z (F0 mi 172 ls [.int 1])) (S : CallFix pg mi co cL_law 8 s ar lw_all RL) (hK : va_K D vwCl (gTys D) s) (hE : EV D A s s.heap) (hA : ∀ q, s.heap.size ≤ q → A q) (hG : DGf A s s.heap) (hC : CN s) (hTp : Tp s) (hTd : ∀ (s : State) (d : Drawn), Tp s → Tp (s.setDrawn d)) (hl : lv_has ls 8 [(0, .ref sb)]) : W pg l en ({ frames := 17, cells := 600000, slots := 7302249, locals := 700 } : Room) s mi ar below me co s.heap [] 0 0 Z (F0 mi 0 ls []) := by
  refine lv_bipush (v := 8) S.1 S.2.1 dL_law_0 (by decide) ?_
  refine g_newa (ws := []) (ty := .int) (a0 := (8, .inl z0)) (cT := D.1 100) S hK (fun k q h => by simp at h) ⟨fun i j p q h => by simp at h, fun k q h => by simp at h⟩ va_S.rf (hA _ (Nat.le_refl _)) rfl (fun C q => by cases q) qw80 0 rfl (fun _ => rfl) (by decide) (by decide) (Nat.le_of_ble_eq_true rfl) (Nat.le_of_ble_eq_true rfl) (Nat.le_of_ble_eq_true rfl) dL_law_2 (fun H hz1 hP hD hS => ?_)
  generalize s.heap.size = qa at hP hD ⊢
  clear hz1
  have hP : va_P D vwCl (qC D qa z0) H := hP
  have hD : va_D A (qC D qa z0) := hD
  refine lv_astore_n (lv' := [(1, .ref qa), (0, .ref sb)]) S.1 S.2.1 dL_law_4 rfl hl (by decide) rfl (fun ls hl => ?_)
  refine lv_iconst (v := 1) S.1 S.2.1 dL_law_5 (by decide) ?_
  refine lv_istore_n (lv' := [(2, .int 1), (1, .ref qa), (0, .ref sb)]) S.1 S.2.1 dL_law_6 rfl hl (by decide) rfl (fun ls hl => ?_)
  refine lv_iconst (v := 0) S.1 S.2.1 dL_law_7 (by decide) ?_
  refine lv_istore_n (lv' := [(3, .int 0), (2, .int 1), (1, .ref qa), (0, .ref sb)]) S.1 S.2.1 dL_law_8 rfl hl (by decide) rfl (fun ls hl => ?_)
  refine W.more (cells' := 1) (slots' := 8) ?_ (by decide) (by decide)
  refine la_r (s0 := s) (i := 0) (cl := 1) (sl := 8) (by decide) (by decide) hL (by decide) hTx (fun {s} {f} {H} {locs} {ls} S hK hE hA hG hC hTp hTd hD0 hP hD hS hl => ?_) S hK hE hA hG hC hTp hTd (Drawn.sameBut.refl _ _) hP hD hS (lv_sub hl [0, 1, 2, 3] rfl)
  refine la_r (i := 1) (cl := 1 + 434 + 18200) (sl := 8 + 11570 + 710000) (by decide) (by decide) hL (by decide) hTx (fun {s} {f} {H} {locs} {ls} S hK hE hA hG hC hTp hTd hD0 hP hD hS hl => ?_) S hK hE hA hG hC hTp hTd hD0 hP hD hS hl
  exact la_e (by decide) (by decide) hTe S hK hE hA hG hC hTp hTd hS hl
end LAWE
