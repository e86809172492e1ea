/-! BUILDERS in a walk: the capacity pays for all that was made -/
/-- a String that lies behind the builder x, as a fact beside it -/
theorem st_tx {D : va_G} {A : Nat → Prop} {s : State} {H : Heap} {args : Array Value} {u x : va_W} {a v n : Nat} {f : Nat → Int32} (hts : ∀ w ∈ lw_all, w.before args s = true) (hK : va_K D vwCl (gTys D) s) (hP : va_P D vwCl ((u ++ x) ++ stW D a v n f) H) (hD : va_D A ((u ++ x) ++ stW D a v n f)) : Tx (va_A x H.size) s H a v n f := by
  have ha := wp_right hP 0 _ rfl
  have hv := wp_right hP 1 _ rfl
  have out : ∀ (i : Nat) (q : Nat × va_E), (stW D a v n f)[i]? = some q → va_at D vwCl q H → ¬ va_A x H.size q.1 := by
    intro i q hq hat z
    rcases z with ⟨k, e, hk⟩ | z
    · have hkx : k < x.length := (List.getElem?_eq_some_iff.mp hk).1
      have e1 : ((u ++ x) ++ stW D a v n f)[u.length + k]? = some (q.1, e) := by
        rw [List.getElem?_append_left (by rw [List.length_append]; omega), List.getElem?_append_right (Nat.le_add_right _ _), Nat.add_sub_cancel_left]
        exact hk
      have e2 : ((u ++ x) ++ stW D a v n f)[(u ++ x).length + i]? = some q := by
        rw [List.getElem?_append_right (Nat.le_add_right _ _), Nat.add_sub_cancel_left]
        exact hq
      have := hD.1 _ _ _ _ e1 e2 rfl
      rw [List.length_append] at this
      omega
    · exact absurd hat.lt (Nat.not_lt.mpr z)
  exact Tx.of hts hK ha hv (out 0 _ rfl ha) (out 1 _ rfl hv)
section SB4
variable {p : Program} {l : Launch} {e : Env} {R : Room} {s : State} {mi : MethodId} {args : Array Value} {below : List Frame} {meth : Method} {c0 : Code} {H : Heap} {locs : List Loc} {cb sb cells slots : Nat} {Z : State → Prop} {cc : ByteArray} {nL pc index : Nat} {ls : Array Slot} {rest : List Value} {D : va_G} {A : Nat → Prop} {own : String} {u : va_W} {b v m n M : Nat} {f : Nat → Int32} {L : List Int32}
theorem bc_init (S : CallFix p mi c0 cc nL s args lw_all own) (K : Cond.methodLink own index yJ4_init_a7421 ∈ lw_all) (hK : va_K D vwCl (gTys D) s) (hP : va_P D vwCl (u ++ sb0 b) H) (hD : va_D A (u ++ sb0 b)) (hE : EV D A s s.heap) (hS : va_S A s.heap H locs) (hA : ∀ q, s.heap.size ≤ q → A q) {a vs ns : Nat} {bs : Nat → Int32} (hb : ∀ j, j < ns → fits .byte (.int (bs j)) = true) (hns : ns < 32768) (hL : BC bs ns L) (hT : Tx (va_A (sb0 b) H.size) s H a vs ns bs) (hls : ls.size = nL) (hW : (rest.map fun v => v.category).sum ≤ 8) (hR : 9 ≤ R.frames ∧ 270 ≤ R.locals) (hr : cells + 1 ≤ R.cells ∧ slots + (ns + 16) ≤ R.slots) (hdg : decode cc pc = .ok (.invokespecial index, 3))
    (kk : ∀ (H1 : Heap) (locs1 : List Loc) (v1 : Nat) (f1 : Nat → Int32), BC f1 ns L → fbt f1 → va_P D vwCl (u ++ sbW D b v1 (ns + 16) f1 ns) H1 → va_D A (u ++ sbW D b v1 (ns + 16) f1 ns) → va_S A s.heap H1 locs1 → W p l e R s mi args below meth c0 H1 locs1 (cells + 1) (slots + (ns + 16)) Z (F0 mi (pc + 3) ls rest)) :
    W p l e R s mi args below meth c0 H locs cells slots Z (F0 mi pc ls (.ref a :: .ref b :: rest)) := by
  have hA1 : ∀ q, va_A (sb0 b) H.size q → A q := wa_sub (wd_right hD) (fun q hq => hA q (Nat.le_trans hS.1 hq))
  refine x_aft (x_I (As := [.ref a]) (rest := rest) S mc_J4_init_a7421 K (x_J4_init_a7421 l D (va_A (sb0 b) H.size) b a vs ns bs H.size (fun q hq => .inr hq) hb hns) (stX_and stX_sz stX_tx) hK (wp_right hP) (wd_own (wd_right hD)) (hE.own hS (wd_right hD) hA) ⟨Nat.le_refl _, hT⟩ rfl rfl hls hW rfl rfl ⟨hR.1, Nat.le_trans (Nat.le_of_ble_eq_true rfl) hR.2⟩ hr hdg) hS hA1 (fun V H2 locs2 hq hz hk hS2 => ?_)
  obtain ⟨rfl, v1, f1, h0, h1, hP2, hD2⟩ := hq
  obtain ⟨hP3, hD3⟩ := w_join hP hD (fun q hq => hA q (Nat.le_trans hS.1 hq)) hk hP2 hD2
  exact kk H2 locs2 v1 f1 ⟨hL.1, fun j hj => (h0 j hj).trans (hL.2 j hj)⟩ h1 hP3 hD3 hS2
set_option maxHeartbeats 4000000 in
theorem bw_ch (S : CallFix p mi c0 cc nL s args lw_all own) (K : Cond.methodLink own index yJ4_append_cf468 ∈ lw_all) (hK : va_K D vwCl (gTys D) s) (hP : va_P D vwCl (u ++ sbW D b v m f n) H) (hD : va_D A (u ++ sbW D b v m f n)) (hE : EV D A s s.heap) (hS : va_S A s.heap H locs) (hA : ∀ q, s.heap.size ≤ q → A q) (hf : fbt f) (hn : n ≤ m) (h16 : 16 ≤ m) (hm : m ≤ M) (hM : M < 65536) (hL : BC f n L) {c : Int32} (hc : asc c) (hq : 2 * (n + [c].length) ≤ M) (hls : ls.size = nL) (hW : (rest.map fun v => v.category).sum ≤ 8) (hR : 6 ≤ R.frames ∧ 170 ≤ R.locals) (hr : cb + M / 16 ≤ R.cells ∧ sb + 2 * M ≤ R.slots) (hdg : decode cc pc = .ok (.invokevirtual index, 3))
    (kk : ∀ (H1 : Heap) (locs1 : List Loc) (v1 : Nat) (f1 : Nat → Int32) (n1 m1 : Nat), n1 = n + [c].length → BC f1 n1 (L ++ [c]) → fbt f1 → n1 ≤ m1 → 16 ≤ m1 → m1 ≤ M → va_P D vwCl (u ++ sbW D b v1 m1 f1 n1) H1 → va_D A (u ++ sbW D b v1 m1 f1 n1) → va_S A s.heap H1 locs1 → W p l e R s mi args below meth c0 H1 locs1 (cb + m1 / 16) (sb + 2 * m1) Z (F0 mi (pc + 3) ls (.ref b :: rest))) :
    W p l e R s mi args below meth c0 H locs (cb + m / 16) (sb + 2 * m) Z (F0 mi pc ls (.int c :: .ref b :: rest)) := by
  have k1 := cap_cells16 (q := n + [c].length) h16
  have k2 := cap_slots (q := n + [c].length) (m := m)
  have k3 := cap_up (q := n + [c].length) hm hq
  have k4 := cap_cells (q := n + [c].length) (m := m)
  skip
  refine bc_ch S K hK hP hD hE hS hA hf hn (by omega) hL hc hls hW hR ⟨by omega, by omega⟩ hdg (fun H1 locs1 v1 f1 h1 h2 hP1 hD1 hS1 hz hk => ?_)
  exact W.more (kk H1 locs1 v1 f1 _ _ rfl h1 h2 cap_le (by omega) k3 hP1 hD1 hS1) (by omega) (by omega)
set_option maxHeartbeats 4000000 in
theorem bw_st (S : CallFix p mi c0 cc nL s args lw_all own) (K : Cond.methodLink own index yJ4_append_15ec4 ∈ lw_all) (hK : va_K D vwCl (gTys D) s) (hP : va_P D vwCl (u ++ sbW D b v m f n) H) (hD : va_D A (u ++ sbW D b v m f n)) (hE : EV D A s s.heap) (hS : va_S A s.heap H locs) (hA : ∀ q, s.heap.size ≤ q → A q) (hf : fbt f) (hn : n ≤ m) (h16 : 16 ≤ m) (hm : m ≤ M) (hM : M < 65536) (hL : BC f n L) {a vs ns : Nat} {bs : Nat → Int32} {L2 : List Int32} (hb : ∀ j, j < ns → fits .byte (.int (bs j)) = true) (hns : ns < 65536) (hL2 : BC bs ns L2) (hT : Tx (va_A (sbW D b v m f n) H.size) s H a vs ns bs) (hq : 2 * (n + L2.length) ≤ M) (hls : ls.size = nL) (hW : (rest.map fun v => v.category).sum ≤ 8) (hR : 6 ≤ R.frames ∧ 170 ≤ R.locals) (hr : cb + M / 16 ≤ R.cells ∧ sb + 2 * M ≤ R.slots) (hdg : decode cc pc = .ok (.invokevirtual index, 3))
    (kk : ∀ (H1 : Heap) (locs1 : List Loc) (v1 : Nat) (f1 : Nat → Int32) (n1 m1 : Nat), n1 = n + L2.length → BC f1 n1 (L ++ L2) → fbt f1 → n1 ≤ m1 → 16 ≤ m1 → m1 ≤ M → va_P D vwCl (u ++ sbW D b v1 m1 f1 n1) H1 → va_D A (u ++ sbW D b v1 m1 f1 n1) → va_S A s.heap H1 locs1 → W p l e R s mi args below meth c0 H1 locs1 (cb + m1 / 16) (sb + 2 * m1) Z (F0 mi (pc + 3) ls (.ref b :: rest))) :
    W p l e R s mi args below meth c0 H locs (cb + m / 16) (sb + 2 * m) Z (F0 mi pc ls (.ref a :: .ref b :: rest)) := by
  have k1 := cap_cells16 (q := n + L2.length) h16
  have k2 := cap_slots (q := n + L2.length) (m := m)
  have k3 := cap_up (q := n + L2.length) hm hq
  have k4 := cap_cells (q := n + L2.length) (m := m)
  skip
  refine bc_st S K hK hP hD hE hS hA hf hn (by omega) hL hb hns hL2 hT hls hW hR ⟨by omega, by omega⟩ hdg (fun H1 locs1 v1 f1 h1 h2 hP1 hD1 hS1 hz hk => ?_)
  exact W.more (kk H1 locs1 v1 f1 _ _ rfl h1 h2 cap_le (by omega) k3 hP1 hD1 hS1) (by omega) (by omega)
set_option maxHeartbeats 4000000 in
theorem bw_in (S : CallFix p mi c0 cc nL s args lw_all own) (K : Cond.methodLink own index yJ4_append_bf812 ∈ lw_all) (hK : va_K D vwCl (gTys D) s) (hP : va_P D vwCl (u ++ sbW D b v m f n) H) (hD : va_D A (u ++ sbW D b v m f n)) (hE : EV D A s s.heap) (hS : va_S A s.heap H locs) (hA : ∀ q, s.heap.size ≤ q → A q) (hf : fbt f) (hn : n ≤ m) (h16 : 16 ≤ m) (hm : m ≤ M) (hM : M < 65536) (hL : BC f n L) {x : Int32} (hG : DGf A s s.heap) (hq : 2 * (n + (decL x).length) ≤ M) (hls : ls.size = nL) (hW : (rest.map fun v => v.category).sum ≤ 8) (hR : 6 ≤ R.frames ∧ 170 ≤ R.locals) (hr : cb + M / 16 ≤ R.cells ∧ sb + 2 * M ≤ R.slots) (hdg : decode cc pc = .ok (.invokevirtual index, 3))
    (kk : ∀ (H1 : Heap) (locs1 : List Loc) (v1 : Nat) (f1 : Nat → Int32) (n1 m1 : Nat), n1 = n + (decL x).length → BC f1 n1 (L ++ (decL x)) → fbt f1 → n1 ≤ m1 → 16 ≤ m1 → m1 ≤ M → va_P D vwCl (u ++ sbW D b v1 m1 f1 n1) H1 → va_D A (u ++ sbW D b v1 m1 f1 n1) → va_S A s.heap H1 locs1 → W p l e R s mi args below meth c0 H1 locs1 (cb + m1 / 16) (sb + 2 * m1) Z (F0 mi (pc + 3) ls (.ref b :: rest))) :
    W p l e R s mi args below meth c0 H locs (cb + m / 16) (sb + 2 * m) Z (F0 mi pc ls (.int x :: .ref b :: rest)) := by
  have k1 := cap_cells16 (q := n + (decL x).length) h16
  have k2 := cap_slots (q := n + (decL x).length) (m := m)
  have k3 := cap_up (q := n + (decL x).length) hm hq
  have k4 := cap_cells (q := n + (decL x).length) (m := m)
  skip
  refine bc_in S K hK hP hD hE hS hA hf hn (by omega) hL ((hG.kept hS.2.1).narrow (wa_sub (wd_right hD) (fun q hq => hA q (Nat.le_trans hS.1 hq)))) hls hW hR ⟨by omega, by omega⟩ hdg (fun H1 locs1 v1 f1 h1 h2 hP1 hD1 hS1 hz hk => ?_)
  exact W.more (kk H1 locs1 v1 f1 _ _ rfl h1 h2 cap_le (by omega) k3 hP1 hD1 hS1) (by omega) (by omega)
set_option maxHeartbeats 4000000 in
theorem bw_lit (S : CallFix p mi c0 cc nL s args lw_all own) (K : Cond.methodLink own index yJ4_append_15ec4 ∈ lw_all) (hK : va_K D vwCl (gTys D) s) (hP : va_P D vwCl (u ++ sbW D b v m f n) H) (hD : va_D A (u ++ sbW D b v m f n)) (hE : EV D A s s.heap) (hS : va_S A s.heap H locs) (hA : ∀ q, s.heap.size ≤ q → A q) (hf : fbt f) (hn : n ≤ m) (h16 : 16 ≤ m) (hm : m ≤ M) (hM : M < 65536) (hL : BC f n L) {i : Nat} (hi : i < strLen.length) (hi1 : (strByt.getD i []).length = strLen.getD i 0) (hi2 : ∀ x ∈ strByt.getD i [], asc x) (hi3 : strLen.getD i 0 < 65536) (hq : 2 * (n + (strByt.getD i []).length) ≤ M) (hls : ls.size = nL) (hW : (rest.map fun v => v.category).sum ≤ 8) (hR : 6 ≤ R.frames ∧ 170 ≤ R.locals) (hr : cb + M / 16 ≤ R.cells ∧ sb + 2 * M ≤ R.slots) (hdg : decode cc pc = .ok (.invokevirtual index, 3))
    (kk : ∀ (H1 : Heap) (locs1 : List Loc) (v1 : Nat) (f1 : Nat → Int32) (n1 m1 : Nat), n1 = n + (strByt.getD i []).length → BC f1 n1 (L ++ (strByt.getD i [])) → fbt f1 → n1 ≤ m1 → 16 ≤ m1 → m1 ≤ M → va_P D vwCl (u ++ sbW D b v1 m1 f1 n1) H1 → va_D A (u ++ sbW D b v1 m1 f1 n1) → va_S A s.heap H1 locs1 → W p l e R s mi args below meth c0 H1 locs1 (cb + m1 / 16) (sb + 2 * m1) Z (F0 mi (pc + 3) ls (.ref b :: rest))) :
    W p l e R s mi args below meth c0 H locs (cb + m / 16) (sb + 2 * m) Z (F0 mi pc ls (.ref (D.2 200 i) :: .ref b :: rest)) := by
  have k1 := cap_cells16 (q := n + (strByt.getD i []).length) h16
  have k2 := cap_slots (q := n + (strByt.getD i []).length) (m := m)
  have k3 := cap_up (q := n + (strByt.getD i []).length) hm hq
  have k4 := cap_cells (q := n + (strByt.getD i []).length) (m := m)
  have hT := (hE.own hS (wd_right hD) hA).tx hi
  have hb : ∀ j, j < strLen.getD i 0 → fits .byte (.int ((strByt.getD i []).getD j 0)) = true := fun j hj => by
    have hj2 : j < (strByt.getD i []).length := by rw [hi1]; exact hj
    rw [List.getD_eq_getElem?_getD, List.getElem?_eq_getElem hj2]
    exact (asc_ok (hi2 _ (List.getElem_mem hj2))).2.2.2.1
  have hL2 : BC (fun j => (strByt.getD i []).getD j 0) (strLen.getD i 0) (strByt.getD i []) := ⟨hi1, fun j hj => List.getD_eq_getElem?_getD ..⟩
  refine bc_st S K hK hP hD hE hS hA hf hn (by omega) hL hb hi3 hL2 hT hls hW hR ⟨by omega, by omega⟩ hdg (fun H1 locs1 v1 f1 h1 h2 hP1 hD1 hS1 hz hk => ?_)
  exact W.more (kk H1 locs1 v1 f1 _ _ rfl h1 h2 cap_le (by omega) k3 hP1 hD1 hS1) (by omega) (by omega)
end SB4
