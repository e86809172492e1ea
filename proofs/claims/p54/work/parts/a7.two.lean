/-! TWO WORLDS side by side: what a call on one leaves of the other -/
theorem va_nd_of {l : List Nat} (h : l.Nodup) : va_nd l = true := by
  induction l with
  | nil => rfl
  | cons a l ih =>
    obtain ⟨h1, h2⟩ := List.nodup_cons.mp h
    show (decide (a ∉ l) && va_nd l) = true
    rw [decide_eq_true h1, ih h2]
    rfl
theorem wp_left {D : va_G} {cl : List vw_C} {u x : va_W} {H : Heap} (h : va_P D cl (u ++ x) H) : va_P D cl u H := fun k q hk => h k q (by rw [List.getElem?_append_left (List.getElem?_eq_some_iff.mp hk).1]; exact hk)
theorem wp_right {D : va_G} {cl : List vw_C} {u x : va_W} {H : Heap} (h : va_P D cl (u ++ x) H) : va_P D cl x H := fun k q hk => h (u.length + k) q (by rw [List.getElem?_append_right (Nat.le_add_right _ _), Nat.add_sub_cancel_left]; exact hk)
theorem wd_left {A : Nat → Prop} {u x : va_W} (h : va_D A (u ++ x)) : va_D A u := by
  refine ⟨fun i j p q hi hj => h.1 i j p q ?_ ?_, fun k q hk => h.2 k q ?_⟩
  · rw [List.getElem?_append_left (List.getElem?_eq_some_iff.mp hi).1]; exact hi
  · rw [List.getElem?_append_left (List.getElem?_eq_some_iff.mp hj).1]; exact hj
  · rw [List.getElem?_append_left (List.getElem?_eq_some_iff.mp hk).1]; exact hk
theorem wd_own {A : Nat → Prop} {x : va_W} {n : Nat} (h : va_D A x) : va_D (va_A x n) x := ⟨h.1, fun _ _ hk => va_A.in hk⟩
theorem wd_right {A : Nat → Prop} {u x : va_W} (h : va_D A (u ++ x)) : va_D A x := by
  have e : ∀ (k : Nat) (q : Nat × va_E), x[k]? = some q → (u ++ x)[u.length + k]? = some q := fun k q hk => by rw [List.getElem?_append_right (Nat.le_add_right _ _), Nat.add_sub_cancel_left]; exact hk
  exact ⟨fun i j p q hi hj hpq => Nat.add_left_cancel (h.1 _ _ p q (e i p hi) (e j q hj) hpq), fun k q hk => h.2 _ q (e k q hk)⟩
theorem wa_sub {A : Nat → Prop} {x : va_W} {n : Nat} (h : va_D A x) (hA : ∀ q, n ≤ q → A q) : ∀ q, va_A x n q → A q := fun q hq => by
  rcases hq with ⟨k, e, hk⟩ | hq
  · exact h.2 k _ hk
  · exact hA q hq
theorem w_join {D : va_G} {A : Nat → Prop} {u x x1 : va_W} {H H1 : Heap} (hP : va_P D vwCl (u ++ x) H) (hD : va_D A (u ++ x)) (hA : ∀ q, H.size ≤ q → A q) (hk : ∀ q : Nat, q < H.size → ¬ va_A x H.size q → H1[q]? = H[q]?) (hP1 : va_P D vwCl x1 H1) (hD1 : va_D (va_A x H.size) x1) : va_P D vwCl (u ++ x1) H1 ∧ va_D A (u ++ x1) := by
  refine va_join (isC := List.range' u.length x.length) (isR := List.range u.length) hP hD ?_ ?_ (va_nd_of List.nodup_range) ?_ hk (wa_sub (wd_right hD) hA) hP1 hD1
  · refine List.ext_getElem? fun i => ?_
    rw [List.getElem?_map, List.getElem?_map]
    rcases Nat.lt_or_ge i x.length with h | h
    · rw [List.getElem?_range' h, Option.map_some, Nat.one_mul, List.getElem?_append_right (Nat.le_add_right _ _), Nat.add_sub_cancel_left, List.getElem?_eq_getElem h]
      rfl
    · rw [List.getElem?_eq_none (by rw [List.length_range']; exact h), List.getElem?_eq_none h]
      rfl
  · refine List.ext_getElem? fun i => ?_
    rw [List.getElem?_map, List.getElem?_map]
    rcases Nat.lt_or_ge i u.length with h | h
    · rw [List.getElem?_range h, Option.map_some, List.getElem?_append_left h, List.getElem?_eq_getElem h]
      rfl
    · rw [List.getElem?_eq_none (by rw [List.length_range]; exact h), List.getElem?_eq_none h]
      rfl
  · intro i hi hj
    have h1 := List.mem_range.mp hi
    obtain ⟨h2, -⟩ := List.mem_range'_1.mp hj
    omega
theorem w_same {u x W1 : va_W} (h : Same (u ++ x) W1 0 234) (hu : 234 ≤ u.length) : ∃ u1, W1 = u1 ++ x ∧ Same u u1 0 234 := by
  obtain ⟨hl, hs⟩ := h
  rw [List.length_append] at hl
  refine ⟨W1.take u.length, ?_, ?_, fun j hj => ?_⟩
  · refine List.ext_getElem? fun i => ?_
    rcases Nat.lt_or_ge i u.length with hi | hi
    · rw [List.getElem?_append_left (by rw [List.length_take]; omega), List.getElem?_take_of_lt hi]
    · have e : (W1.take u.length).length = u.length := by rw [List.length_take]; omega
      rw [List.getElem?_append_right (by omega), e, hs i (.inr (by omega)), List.getElem?_append_right hi]
  · rw [List.length_take]; omega
  · rcases hj with hj | hj
    · exact absurd hj (Nat.not_lt_zero _)
    · rcases Nat.lt_or_ge j u.length with hi | hi
      · rw [List.getElem?_take_of_lt hi, hs j (.inr hj), List.getElem?_append_left hi]
      · rw [List.getElem?_eq_none hi, List.getElem?_eq_none (by rw [List.length_take]; omega)]
theorem EV.own {D : va_G} {A : Nat → Prop} {s : State} {H : Heap} {locs : List Loc} {x : va_W} (h : EV D A s s.heap) (hS : va_S A s.heap H locs) (hD : va_D A x) (hA : ∀ q, s.heap.size ≤ q → A q) : EV D (va_A x H.size) s H := (h.kept hS.2.1).narrow (wa_sub hD (fun q hq => hA q (Nat.le_trans hS.1 hq)))
/-- the room that a builder has used: each growing at least doubles -/
theorem cap_cells {q m : Nat} : m + capC q m ≤ capq q m := by
  unfold capC capq
  split
  · omega
  · split <;> omega
theorem cap_slots {q m : Nat} : 2 * m + capS q m ≤ 2 * capq q m := by
  unfold capS
  split
  · rename_i h
    unfold capq
    rw [if_pos h]
    omega
  · rename_i h
    unfold capq
    rw [if_neg h]
    split <;> omega
theorem cap_le {q m : Nat} : q ≤ capq q m := by
  unfold capq
  split
  · omega
  · split <;> omega
theorem cap_up {q m M : Nat} (h : m ≤ M) (hq : 2 * q ≤ M) : capq q m ≤ M := by
  unfold capq
  split
  · exact h
  · split <;> omega
section GNO
variable {p : Program} {l : Launch} {e : Env} {R : Room} {s : State} {m : MethodId} {args : Array Value} {below : List Frame} {meth : Method} {c : Code} {H : Heap} {locs : List Loc} {cells slots : Nat} {Q : State → Prop} {cc : ByteArray} {nL pc : Nat} {ls : Array Slot} {rest : List Value} {D : va_G} {A : Nat → Prop} {ws : va_W} {own : String} {H0 : Heap}
theorem g_newO (S : CallFix p m c cc nL s args lw_all own) (hK : va_K D vwCl (gTys D) s) (hP : va_P D vwCl ws H) (hD : va_D A ws) (hS : va_S A H0 H locs) (hA : A H.size) {ci index N : Nat} {C : String} {T : u_T} {ty0 : Nat → FieldType} {fs : List Value} (hin : ∀ w ∈ u_ws C T N, w ∈ lw_all) (hty : ∀ k, k < N → parseFieldDescriptor (T k).2.2.1 = some (ty0 k)) (hc : vwCl[ci]? = some (C, T, N)) (hcl : Cond.classLink own index C ∈ lw_all) (hinst : Cond.instantiable C N ∈ lw_all) (hini : Cond.initialized C ∈ lw_all) (hfs : ∀ j, j < N → defaultValue (ty0 j) = vp_V fs j) (hcells : cells + 1 ≤ R.cells) (hslots : slots + N ≤ R.slots) (hdg : decode cc pc = .ok (.new index, 3))
    (kk : ∀ (H1 : Heap), H1.size = H.size + 1 → (∀ q : Nat, q < H.size → H1[q]? = H[q]?) → va_P D vwCl (ws ++ [(H.size, .inr (ci, fs))]) H1 → va_D A (ws ++ [(H.size, .inr (ci, fs))]) → va_S A H0 H1 locs → W p l e R s m args below meth c H1 locs (cells + 1) (slots + N) Q (F0 m (pc + 3) ls (.ref H.size :: rest))) : W p l e R s m args below meth c H locs cells slots Q (F0 m pc ls rest) := by
  have hts := S.2.2.2.2
  have hKn := hK.1 ci _ hc
  refine W.newcK S.1 S.2.1 S.2.2.2.1 (hts _ hcl) (hts _ hinst) (hts _ hini) rfl hdg hcells hslots hKn.2.1 rfl fun H1 kC hkC e1 z1 o1 => ?_
  have keep : ∀ (k : Nat) (x : Nat × va_E), ws[k]? = some x → H1[x.1]? = H[x.1]? := fun k x hx => o1 x.1 ((hP k x hx).lt)
  have one : va_P D vwCl [(H.size, .inr (ci, fs))] H1 := by
    intro k x hx
    have hz : k = 0 := by have := (List.getElem?_eq_some_iff.mp hx).1; simp only [List.length_singleton] at this; omega
    subst hz
    cases hx
    exact ⟨_, hc, (u_born ty0 hts hin hKn hkC e1 hty).to hfs⟩
  exact kk H1 z1 o1 ((hP.kept keep).app one) (hD.push hP rfl hA) ⟨Nat.le_trans hS.1 (by omega), fun x h1 h2 => (o1 x (Nat.lt_of_lt_of_le h1 hS.1)).trans (hS.2.1 x h1 h2), hS.2.2⟩
end GNO
section SB2
variable {p : Program} {l : Launch} {e : Env} {R : Room} {s : State} {mi : MethodId} {args : Array Value} {below : List Frame} {meth : Method} {c0 : Code} {H : Heap} {locs : List Loc} {cells slots : Nat} {Z : State → Prop} {cc : ByteArray} {nL pc index : Nat} {ls : Array Slot} {rest : List Value} {D : va_G} {A : Nat → Prop} {own : String} {u : va_W} {b v m n : Nat} {f : Nat → Int32}
set_option maxHeartbeats 4000000 in
theorem sb_ch (S : CallFix p mi c0 cc nL s args lw_all own) (L : Cond.methodLink own index yJ4_append_cf468 ∈ lw_all) (hK : va_K D vwCl (gTys D) s) (hP : va_P D vwCl (u ++ sbW D b v m f n) H) (hD : va_D A (u ++ sbW D b v m f n)) (hE : EV D A s s.heap) (hS : va_S A s.heap H locs) (hA : ∀ q, s.heap.size ≤ q → A q) (hf : fbt f) (hn : n ≤ m) (hm : m < 65536) {c : Int32} (hc : asc c) (hls : ls.size = nL) (hW : (rest.map fun v => v.category).sum ≤ 8) (hR : 6 ≤ R.frames ∧ 170 ≤ R.locals) (hr : cells + capC (n + 1) m ≤ R.cells ∧ slots + capS (n + 1) m ≤ R.slots) (hdg : decode cc pc = .ok (.invokevirtual index, 3))
    (kk : ∀ (H1 : Heap) (locs1 : List Loc) (v1 : Nat) (f1 : Nat → Int32), (∀ j, j < n → f1 j = f j) → f1 n = c → fbt f1 → va_P D vwCl (u ++ sbW D b v1 (capq (n + 1) m) f1 (n + 1)) H1 → va_D A (u ++ sbW D b v1 (capq (n + 1) m) f1 (n + 1)) → va_S A s.heap H1 locs1 → H.size ≤ H1.size → (∀ q : Nat, q < H.size → ¬ va_A (sbW D b v m f n) H.size q → H1[q]? = H[q]?) → W p l e R s mi args below meth c0 H1 locs1 (cells + capC (n + 1) m) (slots + capS (n + 1) m) Z (F0 mi (pc + 3) ls (.ref b :: rest))) :
    W p l e R s mi args below meth c0 H locs cells slots Z (F0 mi pc ls (.int c :: .ref b :: rest)) := by
  have hA1 : ∀ q, va_A (sbW D b v m f n) H.size q → A q := wa_sub (wd_right hD) (fun q hq => hA q (Nat.le_trans hS.1 hq))
  refine x_aft (x_V (As := [.int c]) (rest := rest) S mi_J4_append_cf468 L (x_J4_append_cf468 l D (va_A (sbW D b v m f n) H.size) b v m n f c H.size (fun q hq => .inr hq) hf hc hn hm) stX_sz hK (wp_right hP) (wd_own (wd_right hD)) (hE.own hS (wd_right hD) hA) (Nat.le_refl _) (sb_recv hK (wp_right hP)) rfl rfl hls hW rfl rfl ⟨hR.1, Nat.le_trans (Nat.le_of_ble_eq_true rfl) hR.2⟩ hr hdg) hS hA1 (fun V H1 locs hq hz hk hS1 => ?_)
  obtain ⟨rfl, v1, f1, hf0, hfc, hf1, hP1, hD1⟩ := hq
  obtain ⟨hP2, hD2⟩ := w_join hP hD (fun q hq => hA q (Nat.le_trans hS.1 hq)) hk hP1 hD1
  exact kk H1 locs v1 f1 hf0 hfc hf1 hP2 hD2 hS1 hz hk
set_option maxHeartbeats 4000000 in
theorem sb_st (S : CallFix p mi c0 cc nL s args lw_all own) (L : Cond.methodLink own index yJ4_append_15ec4 ∈ lw_all) (hK : va_K D vwCl (gTys D) s) (hP : va_P D vwCl (u ++ sbW D b v m f n) H) (hD : va_D A (u ++ sbW D b v m f n)) (hE : EV D A s s.heap) (hS : va_S A s.heap H locs) (hA : ∀ q, s.heap.size ≤ q → A q) (hf : fbt f) (hn : n ≤ m) (hm : m < 65536) {a vs ns : Nat} {bs : Nat → Int32} (hb : ∀ j, j < ns → fits .byte (.int (bs j)) = true) (hns : ns < 65536) (hT : Tx (va_A (sbW D b v m f n) H.size) s H a vs ns bs) (hls : ls.size = nL) (hW : (rest.map fun v => v.category).sum ≤ 8) (hR : 6 ≤ R.frames ∧ 170 ≤ R.locals) (hr : cells + capC (n + ns) m ≤ R.cells ∧ slots + capS (n + ns) m ≤ R.slots) (hdg : decode cc pc = .ok (.invokevirtual index, 3))
    (kk : ∀ (H1 : Heap) (locs1 : List Loc) (v1 : Nat) (f1 : Nat → Int32), (∀ j, j < n → f1 j = f j) → (∀ j, j < ns → f1 (n + j) = bs j) → fbt f1 → va_P D vwCl (u ++ sbW D b v1 (capq (n + ns) m) f1 (n + ns)) H1 → va_D A (u ++ sbW D b v1 (capq (n + ns) m) f1 (n + ns)) → va_S A s.heap H1 locs1 → H.size ≤ H1.size → (∀ q : Nat, q < H.size → ¬ va_A (sbW D b v m f n) H.size q → H1[q]? = H[q]?) → W p l e R s mi args below meth c0 H1 locs1 (cells + capC (n + ns) m) (slots + capS (n + ns) m) Z (F0 mi (pc + 3) ls (.ref b :: rest))) :
    W p l e R s mi args below meth c0 H locs cells slots Z (F0 mi pc ls (.ref a :: .ref b :: rest)) := by
  have hA1 : ∀ q, va_A (sbW D b v m f n) H.size q → A q := wa_sub (wd_right hD) (fun q hq => hA q (Nat.le_trans hS.1 hq))
  refine x_aft (x_V (As := [.ref a]) (rest := rest) S mi_J4_append_15ec4 L (x_J4_append_15ec4 l D (va_A (sbW D b v m f n) H.size) b v m n f a vs ns bs H.size (fun q hq => .inr hq) hf hb hn hm hns) (stX_and stX_sz stX_tx) hK (wp_right hP) (wd_own (wd_right hD)) (hE.own hS (wd_right hD) hA) ⟨Nat.le_refl _, hT⟩ (sb_recv hK (wp_right hP)) rfl rfl hls hW rfl rfl ⟨hR.1, Nat.le_trans (Nat.le_of_ble_eq_true rfl) hR.2⟩ hr hdg) hS hA1 (fun V H1 locs hq hz hk hS1 => ?_)
  obtain ⟨rfl, v1, f1, hf0, hfc, hf1, hP1, hD1⟩ := hq
  obtain ⟨hP2, hD2⟩ := w_join hP hD (fun q hq => hA q (Nat.le_trans hS.1 hq)) hk hP1 hD1
  exact kk H1 locs v1 f1 hf0 hfc hf1 hP2 hD2 hS1 hz hk
set_option maxHeartbeats 4000000 in
theorem sb_im (S : CallFix p mi c0 cc nL s args lw_all own) (L : Cond.methodLink own index yJ4_append_bf812 ∈ lw_all) (hK : va_K D vwCl (gTys D) s) (hP : va_P D vwCl (u ++ sbW D b v m f n) H) (hD : va_D A (u ++ sbW D b v m f n)) (hE : EV D A s s.heap) (hS : va_S A s.heap H locs) (hA : ∀ q, s.heap.size ≤ q → A q) (hf : fbt f) (hn : n ≤ m) (hm : m < 65536) {k : Nat} (hk31 : k ≤ 2 ^ 31) (hk0 : 0 < k) (hG : DGf (va_A (sbW D b v m f n) H.size) s H) (hls : ls.size = nL) (hW : (rest.map fun v => v.category).sum ≤ 8) (hR : 6 ≤ R.frames ∧ 170 ≤ R.locals) (hr : cells + capC (n + (sz k + 1)) m ≤ R.cells ∧ slots + capS (n + (sz k + 1)) m ≤ R.slots) (hdg : decode cc pc = .ok (.invokevirtual index, 3))
    (kk : ∀ (H1 : Heap) (locs1 : List Loc) (v1 : Nat) (f1 : Nat → Int32), (∀ j, j < n → f1 j = f j) → f1 n = 45 → (∀ u, u < sz k → f1 ((n + (sz k + 1)) - 1 - u) = dig k u) → fbt f1 → va_P D vwCl (u ++ sbW D b v1 (capq (n + (sz k + 1)) m) f1 (n + (sz k + 1))) H1 → va_D A (u ++ sbW D b v1 (capq (n + (sz k + 1)) m) f1 (n + (sz k + 1))) → va_S A s.heap H1 locs1 → H.size ≤ H1.size → (∀ q : Nat, q < H.size → ¬ va_A (sbW D b v m f n) H.size q → H1[q]? = H[q]?) → W p l e R s mi args below meth c0 H1 locs1 (cells + capC (n + (sz k + 1)) m) (slots + capS (n + (sz k + 1)) m) Z (F0 mi (pc + 3) ls (.ref b :: rest))) :
    W p l e R s mi args below meth c0 H locs cells slots Z (F0 mi pc ls (.int (mI k) :: .ref b :: rest)) := by
  have hA1 : ∀ q, va_A (sbW D b v m f n) H.size q → A q := wa_sub (wd_right hD) (fun q hq => hA q (Nat.le_trans hS.1 hq))
  refine x_aft (x_V (As := [.int (mI k)]) (rest := rest) S mi_J4_append_bf812 L (x_J4_append_bf812_n l D (va_A (sbW D b v m f n) H.size) b v m n f k H.size (fun q hq => .inr hq) hf hk31 hk0 hn hm) (stX_and stX_sz stX_dg) hK (wp_right hP) (wd_own (wd_right hD)) (hE.own hS (wd_right hD) hA) ⟨Nat.le_refl _, hG⟩ (sb_recv hK (wp_right hP)) rfl rfl hls hW rfl rfl ⟨hR.1, Nat.le_trans (Nat.le_of_ble_eq_true rfl) hR.2⟩ hr hdg) hS hA1 (fun V H1 locs hq hz hk hS1 => ?_)
  obtain ⟨rfl, v1, f1, hf0, hfc, hfd, hf1, hP1, hD1⟩ := hq
  obtain ⟨hP2, hD2⟩ := w_join hP hD (fun q hq => hA q (Nat.le_trans hS.1 hq)) hk hP1 hD1
  exact kk H1 locs v1 f1 hf0 hfc hfd hf1 hP2 hD2 hS1 hz hk
set_option maxHeartbeats 4000000 in
theorem sb_ip (S : CallFix p mi c0 cc nL s args lw_all own) (L : Cond.methodLink own index yJ4_append_bf812 ∈ lw_all) (hK : va_K D vwCl (gTys D) s) (hP : va_P D vwCl (u ++ sbW D b v m f n) H) (hD : va_D A (u ++ sbW D b v m f n)) (hE : EV D A s s.heap) (hS : va_S A s.heap H locs) (hA : ∀ q, s.heap.size ≤ q → A q) (hf : fbt f) (hn : n ≤ m) (hm : m < 65536) {k : Nat} (hk31 : k < 2 ^ 31) (hG : DGf (va_A (sbW D b v m f n) H.size) s H) (hls : ls.size = nL) (hW : (rest.map fun v => v.category).sum ≤ 8) (hR : 6 ≤ R.frames ∧ 170 ≤ R.locals) (hr : cells + capC (n + (sz k + 0)) m ≤ R.cells ∧ slots + capS (n + (sz k + 0)) m ≤ R.slots) (hdg : decode cc pc = .ok (.invokevirtual index, 3))
    (kk : ∀ (H1 : Heap) (locs1 : List Loc) (v1 : Nat) (f1 : Nat → Int32), (∀ j, j < n → f1 j = f j) → (∀ u, u < sz k → f1 ((n + (sz k + 0)) - 1 - u) = dig k u) → fbt f1 → va_P D vwCl (u ++ sbW D b v1 (capq (n + (sz k + 0)) m) f1 (n + (sz k + 0))) H1 → va_D A (u ++ sbW D b v1 (capq (n + (sz k + 0)) m) f1 (n + (sz k + 0))) → va_S A s.heap H1 locs1 → H.size ≤ H1.size → (∀ q : Nat, q < H.size → ¬ va_A (sbW D b v m f n) H.size q → H1[q]? = H[q]?) → W p l e R s mi args below meth c0 H1 locs1 (cells + capC (n + (sz k + 0)) m) (slots + capS (n + (sz k + 0)) m) Z (F0 mi (pc + 3) ls (.ref b :: rest))) :
    W p l e R s mi args below meth c0 H locs cells slots Z (F0 mi pc ls (.int (nI k) :: .ref b :: rest)) := by
  have hA1 : ∀ q, va_A (sbW D b v m f n) H.size q → A q := wa_sub (wd_right hD) (fun q hq => hA q (Nat.le_trans hS.1 hq))
  refine x_aft (x_V (As := [.int (nI k)]) (rest := rest) S mi_J4_append_bf812 L (x_J4_append_bf812_p l D (va_A (sbW D b v m f n) H.size) b v m n f k H.size (fun q hq => .inr hq) hf (Nat.le_of_lt hk31) hk31 hn hm) (stX_and stX_sz stX_dg) hK (wp_right hP) (wd_own (wd_right hD)) (hE.own hS (wd_right hD) hA) ⟨Nat.le_refl _, hG⟩ (sb_recv hK (wp_right hP)) rfl rfl hls hW rfl rfl ⟨hR.1, Nat.le_trans (Nat.le_of_ble_eq_true rfl) hR.2⟩ hr hdg) hS hA1 (fun V H1 locs hq hz hk hS1 => ?_)
  obtain ⟨rfl, v1, f1, hf0, hfc, hf1, hP1, hD1⟩ := hq
  obtain ⟨hP2, hD2⟩ := w_join hP hD (fun q hq => hA q (Nat.le_trans hS.1 hq)) hk hP1 hD1
  exact kk H1 locs v1 f1 hf0 hfc hf1 hP2 hD2 hS1 hz hk
set_option maxHeartbeats 4000000 in
theorem sb_new {i1 i2 : Nat} (S : CallFix p mi c0 cc nL s args lw_all own) (hcl : Cond.classLink own i1 RJ4 ∈ lw_all) (L : Cond.methodLink own i2 yJ4_init_da8c8 ∈ lw_all) (hK : va_K D vwCl (gTys D) s) (hP : va_P D vwCl u H) (hD : va_D A u) (hE : EV D A s s.heap) (hS : va_S A s.heap H locs) (hA : ∀ q, s.heap.size ≤ q → A q) (hls : ls.size = nL) (hW : ((Value.ref H.size :: rest).map fun v => v.category).sum ≤ 8) (hR : 6 ≤ R.frames ∧ 170 ≤ R.locals) (hr : cells + 1 + 1 ≤ R.cells ∧ slots + 4 + 16 ≤ R.slots) (d0 : decode cc pc = .ok (.new i1, 3)) (d1 : decode cc (pc + 3) = .ok (.dup, 1)) (d2 : decode cc (pc + 3 + 1) = .ok (.invokespecial i2, 3))
    (kk : ∀ (H1 : Heap) (locs1 : List Loc) (b v1 : Nat), va_P D vwCl (u ++ sbW D b v1 16 z0 0) H1 → va_D A (u ++ sbW D b v1 16 z0 0) → va_S A s.heap H1 locs1 → H.size ≤ H1.size → (∀ q : Nat, q < H.size → H1[q]? = H[q]?) → W p l e R s mi args below meth c0 H1 locs1 (cells + 1 + 1) (slots + 4 + 16) Z (F0 mi (pc + 3 + 1 + 3) ls (.ref b :: rest))) :
    W p l e R s mi args below meth c0 H locs cells slots Z (F0 mi pc ls rest) := by
  refine g_newO (C := RJ4) (T := TJ4) (N := 4) (ci := 13) (fs := [.null, .int 0, .int 0, .int 0]) S hK hP hD hS (hA _ hS.1) inJ4 tyJ4_ok rfl hcl qw841 qw15 (fun j hj => by match j, hj with | 0, _ => rfl | 1, _ => rfl | 2, _ => rfl | 3, _ => rfl) (Nat.le_trans (Nat.le_add_right _ 1) hr.1) (Nat.le_trans (Nat.le_add_right _ 16) hr.2) d0 (fun H1 hz1 hold hP1 hD1 hS1 => ?_)
  refine lv_dup S.1 S.2.1 d1 rfl ?_
  have hA1 : ∀ q, va_A (sb0 H.size) H1.size q → A q := wa_sub (wd_right hD1) (fun q hq => hA q (Nat.le_trans hS1.1 hq))
  refine x_aft (x_I (As := []) (rest := .ref H.size :: rest) S mc_J4_init_da8c8 L (x_J4_init_da8c8 l D (va_A (sb0 H.size) H1.size) H.size H1.size (fun q hq => .inr hq)) stX_sz hK (wp_right hP1) (wd_own (wd_right hD1)) (hE.own hS1 (wd_right hD1) hA) (Nat.le_refl _) rfl rfl hls hW rfl rfl ⟨Nat.le_trans (Nat.le_of_ble_eq_true rfl) hR.1, Nat.le_trans (Nat.le_of_ble_eq_true rfl) hR.2⟩ hr d2) hS1 hA1 (fun V H2 locs2 hq hz hk hS2 => ?_)
  obtain ⟨rfl, v1, hP2, hD2⟩ := hq
  obtain ⟨hP3, hD3⟩ := w_join hP1 hD1 (fun q hq => hA q (Nat.le_trans hS1.1 hq)) hk hP2 hD2
  refine kk H2 locs2 H.size v1 hP3 hD3 hS2 (by omega) (fun q hq => (hk q (by omega) (fun z => ?_)).trans (hold q hq))
  rcases z with ⟨k, e, hk2⟩ | z
  · match k, hk2 with
    | 0, hk2 => exact absurd (congrArg Prod.fst (Option.some.inj hk2)) (by show ¬ H.size = q; omega)
  · omega
set_option maxHeartbeats 4000000 in
theorem sb_ts (S : CallFix p mi c0 cc nL s args lw_all own) (L : Cond.methodLink own index yJ4_toString_0e30d ∈ lw_all) (hK : va_K D vwCl (gTys D) s) (hP : va_P D vwCl (u ++ sbW D b v m f n) H) (hD : va_D A (u ++ sbW D b v m f n)) (hE : EV D A s s.heap) (hS : va_S A s.heap H locs) (hA : ∀ q, s.heap.size ≤ q → A q) (hC : CN s) (hf : fbt f) (hn : n ≤ m) (hm : m < 65536) (hls : ls.size = nL) (hW : (rest.map fun v => v.category).sum ≤ 8) (hR : 6 ≤ R.frames ∧ 210 ≤ R.locals) (hr : cells + 2 ≤ R.cells ∧ slots + (4 + n) ≤ R.slots) (hdg : decode cc pc = .ok (.invokevirtual index, 3))
    (kk : ∀ (H1 : Heap) (locs1 : List Loc) (a v1 : Nat) (f1 : Nat → Int32), (∀ j, j < n → f1 j = f j) → va_P D vwCl (u ++ stW D a v1 n f1) H1 → va_D A (u ++ stW D a v1 n f1) → va_S A s.heap H1 locs1 → H.size ≤ H1.size → (∀ q : Nat, q < H.size → ¬ va_A (sbW D b v m f n) H.size q → H1[q]? = H[q]?) → W p l e R s mi args below meth c0 H1 locs1 (cells + 2) (slots + (4 + n)) Z (F0 mi (pc + 3) ls (.ref a :: rest))) :
    W p l e R s mi args below meth c0 H locs cells slots Z (F0 mi pc ls (.ref b :: rest)) := by
  have hA1 : ∀ q, va_A (sbW D b v m f n) H.size q → A q := wa_sub (wd_right hD) (fun q hq => hA q (Nat.le_trans hS.1 hq))
  refine x_aft (x_V (As := []) (rest := rest) S mi_J4_toString_0e30d L (x_J4_toString_0e30d l D (va_A (sbW D b v m f n) H.size) b v m n f H.size (fun q hq => .inr hq) hf hn hm) (stX_and stX_sz stX_cn) hK (wp_right hP) (wd_own (wd_right hD)) (hE.own hS (wd_right hD) hA) ⟨Nat.le_refl _, hC⟩ (sb_recv hK (wp_right hP)) rfl rfl hls hW rfl rfl ⟨hR.1, Nat.le_trans (Nat.le_of_ble_eq_true rfl) hR.2⟩ hr hdg) hS hA1 (fun V H1 locs1 hq hz hk hS1 => ?_)
  obtain ⟨a, v1, f1, rfl, hf1, hP1, hD1⟩ := hq
  obtain ⟨hP2, hD2⟩ := w_join hP hD (fun q hq => hA q (Nat.le_trans hS.1 hq)) hk hP1 hD1
  exact kk H1 locs1 a v1 f1 hf1 hP2 hD2 hS1 hz hk
end SB2
