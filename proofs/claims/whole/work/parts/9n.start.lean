/-! THE LAW: from its entry -/
theorem kn_arr {args : Array Value} {s : State} {ty : FieldType} (hno : ∀ C, ty ≠ .object C) (h : (Cond.arrayClass ty).before args s = true) : ∃ cA : ClassId, ArrOfT s cA ty ∧ s.vm.findClass ("[" ++ ty.toString) = some cA := by
  obtain ⟨cA, k, comp, h1, h2, h3⟩ := Cond.arrayClass_spec (args := args) (first := s) (o := none) (s := s) (idx := []) h
  exact ⟨cA, fun n z => ⟨fun k h => (by cases h), k, h2, comp, h3⟩, h1⟩
theorem kn_over {s : State} (h : va_AO "StickVotes$State" s) : ∃ cA : ClassId, ArrOfT s cA (.object "StickVotes$State") ∧ va_RA s cA (.object "StickVotes$State") := by
  obtain ⟨comp, cA, k, h1, h2, h3, h4, h5⟩ := Cond.arrayOver_spec h
  exact ⟨cA, fun n z => ⟨fun k h => (by cases h), k, h3, comp, h4⟩, k, comp, h3, h4, h1, h5⟩
theorem start_K {args : Array Value} {s : State} (hts : ∀ w ∈ lw_all, w.before args s = true) (hao : va_AO "StickVotes$State" s) (adK adV : Nat → Nat) : ∃ D : va_G, va_K D vwCl (gTys D) s ∧ D.2 200 = adK ∧ D.2 201 = adV := by
  obtain ⟨c0, iS0, hKn0⟩ := u_known (C := RX0) (T := TX0) (N := 2) (n := 2) hts inX0 (hts _ qw237)
  obtain ⟨c1, iS1, hKn1⟩ := u_known (C := RX1) (T := TX1) (N := 2) (n := 2) hts inX1 (hts _ qw36)
  obtain ⟨c2, iS2, hKn2⟩ := u_known (C := RX2) (T := TX2) (N := 6) (n := 6) hts inX2 (hts _ qw111)
  obtain ⟨c3, iS3, hKn3⟩ := u_known (C := RX3) (T := TX3) (N := 3) (n := 3) hts inX3 (hts _ qw262)
  obtain ⟨c4, iS4, hKn4⟩ := u_known (C := RX4) (T := TX4) (N := 5) (n := 5) hts inX4 (hts _ qw30)
  obtain ⟨c5, iS5, hKn5⟩ := u_known (C := RX5) (T := TX5) (N := 3) (n := 3) hts inX5 (hts _ qw161)
  obtain ⟨c6, iS6, hKn6⟩ := u_known (C := RX6) (T := TX6) (N := 1) (n := 1) hts inX6 (hts _ qw283)
  obtain ⟨c7, iS7, hKn7⟩ := u_known (C := RX7) (T := TX7) (N := 6) (n := 6) hts inX7 (hts _ qw53)
  obtain ⟨c8, iS8, hKn8⟩ := u_known (C := RX8) (T := TX8) (N := 12) (n := 12) hts inX8 (hts _ qw105)
  obtain ⟨c9, iS9, hKn9⟩ := u_known (C := RX9) (T := TX9) (N := 6) (n := 6) hts inX9 (hts _ qw136)
  obtain ⟨c10, iS10, hKn10⟩ := u_known (C := RX10) (T := TX10) (N := 3) (n := 3) hts inX10 (hts _ qw97)
  obtain ⟨c11, iS11, hKn11⟩ := u_known (C := RX11) (T := TX11) (N := 10) (n := 10) hts inX11 (hts _ qw22)
  obtain ⟨c12, iS12, hKn12⟩ := u_known (C := RX12) (T := TX12) (N := 30) (n := 30) hts inX12 (hts _ qw1353)
  obtain ⟨cI, aI, fI⟩ := kn_arr (ty := .int) (fun C h => by cases h) (hts _ qw77)
  obtain ⟨cB, aB, fB⟩ := kn_arr (ty := .byte) (fun C h => by cases h) (hts _ qw51)
  obtain ⟨cZ, aZ, fZ⟩ := kn_arr (ty := .boolean) (fun C h => by cases h) (hts _ qw294)
  obtain ⟨cS, aS, fS⟩ := kn_over hao
  refine ⟨(fun k => match k with | 0 => c0 | 1 => c1 | 2 => c2 | 3 => c3 | 4 => c4 | 5 => c5 | 6 => c6 | 7 => c7 | 8 => c8 | 9 => c9 | 10 => c10 | 11 => c11 | 12 => c12 | 100 => cI | 101 => cB | 102 => cZ | _ => cS, fun k => match k with | 0 => iS0 | 1 => iS1 | 2 => iS2 | 3 => iS3 | 4 => iS4 | 5 => iS5 | 6 => iS6 | 7 => iS7 | 8 => iS8 | 9 => iS9 | 10 => iS10 | 11 => iS11 | 12 => iS12 | 200 => adK | _ => adV), ⟨fun k q hq => ?_, fun k q hq => ?_⟩, rfl, rfl⟩
  · match k, hq with
    | 0, hq => cases hq; exact hKn0
    | 1, hq => cases hq; exact hKn1
    | 2, hq => cases hq; exact hKn2
    | 3, hq => cases hq; exact hKn3
    | 4, hq => cases hq; exact hKn4
    | 5, hq => cases hq; exact hKn5
    | 6, hq => cases hq; exact hKn6
    | 7, hq => cases hq; exact hKn7
    | 8, hq => cases hq; exact hKn8
    | 9, hq => cases hq; exact hKn9
    | 10, hq => cases hq; exact hKn10
    | 11, hq => cases hq; exact hKn11
    | 12, hq => cases hq; exact hKn12
    | k + 13, hq => exact absurd hq (by simp [vwCl])
  · match k, hq with
    | 0, hq => cases hq; exact ⟨aI, fI⟩
    | 1, hq => cases hq; exact ⟨aB, fB⟩
    | 2, hq => cases hq; exact ⟨aZ, fZ⟩
    | 3, hq => cases hq; exact ⟨aS, fS⟩
    | k + 4, hq => exact absurd hq (by simp [gTys])
theorem l_size {p : Program} {l : Launch} {e : Env} {R : Room} {s : State} {m : MethodId} {args : Array Value} {below : List Frame} {meth : Method} {c : Code} {H : Heap} {locs : List Loc} {cells slots : Nat} {Q : State → Prop} {D : va_G} {w : va_W} {q a : Nat} {x : va_E} (hP : va_P D vwCl w H) (hx : w[q]? = some (a, x)) (ha : s.heap.size + cells = a + 1) {g : JFrame} (kk : H.size = a + 1 → W p l e R s m args below meth c H locs cells slots Q g) : W p l e R s m args below meth c H locs cells slots Q g := by
  intro T hT X
  have h1 : H.size ≤ s.heap.size + cells := by rw [← hT]; exact X.same.2.2.1
  have h2 : a < H.size := (hP _ _ hx).lt
  exact kk (by omega) T hT X
theorem ra_first : RALL 0 2 0 2 ((f_X10_beginTheFirstOne z0 z0 z0 z0 z0 z0 z0 z0 z0 z0 z0 z0 z0 z0 z0).2.2.2.2.2.2.2.2.2.2.2.2.2.2.2.2.2.2.1) z0 ((f_X10_beginTheFirstOne z0 z0 z0 z0 z0 z0 z0 z0 z0 z0 z0 z0 z0 z0 z0).2.2.2.2.2.2.2.2.2.2.2.2.2.2.2.2.2.2.2.1) ((f_X10_beginTheFirstOne z0 z0 z0 z0 z0 z0 z0 z0 z0 z0 z0 z0 z0 z0 z0).2.2.2.2.2.2.2.2.2.2.1) ((f_X10_beginTheFirstOne z0 z0 z0 z0 z0 z0 z0 z0 z0 z0 z0 z0 z0 z0 z0).2.2.2.2.2.2.2.2.2.2.2.2.2.2.2.2.1) ((f_X10_beginTheFirstOne z0 z0 z0 z0 z0 z0 z0 z0 z0 z0 z0 z0 z0 z0 z0).2.2.2.2.2.2.2.2.2.2.2.2.2.2.2.2.2.1) ((f_X10_beginTheFirstOne z0 z0 z0 z0 z0 z0 z0 z0 z0 z0 z0 z0 z0 z0 z0).2.2.2.2.2.2.2.1) ((f_X10_beginTheFirstOne z0 z0 z0 z0 z0 z0 z0 z0 z0 z0 z0 z0 z0 z0 z0).2.2.2.2.2.2.2.2.2.2.2.2.2.2.2.2.2.2.2.2.2.2.2.2.2.2) ((f_X10_beginTheFirstOne z0 z0 z0 z0 z0 z0 z0 z0 z0 z0 z0 z0 z0 z0 z0).2.2.2.2.2.2.2.2.2.2.2.2.2.1) ((f_X10_beginTheFirstOne z0 z0 z0 z0 z0 z0 z0 z0 z0 z0 z0 z0 z0 z0 z0).2.1) ((f_X10_beginTheFirstOne z0 z0 z0 z0 z0 z0 z0 z0 z0 z0 z0 z0 z0 z0 z0).2.2.2.2.2.2.2.2.2.2.2.2.2.2.1) ((f_X10_beginTheFirstOne z0 z0 z0 z0 z0 z0 z0 z0 z0 z0 z0 z0 z0 z0 z0).2.2.2.2.2.2.2.2.2.2.2.2.2.2.2.2.2.2.2.2.2.2.1) ((f_X10_beginTheFirstOne z0 z0 z0 z0 z0 z0 z0 z0 z0 z0 z0 z0 z0 z0 z0).2.2.2.2.2.2.2.2.2.2.2.2.1) ((f_X10_beginTheFirstOne z0 z0 z0 z0 z0 z0 z0 z0 z0 z0 z0 z0 z0 z0 z0).2.2.2.2.2.2.1) ((f_X10_beginTheFirstOne z0 z0 z0 z0 z0 z0 z0 z0 z0 z0 z0 z0 z0 z0 z0).2.2.2.1) ((f_X10_beginTheFirstOne z0 z0 z0 z0 z0 z0 z0 z0 z0 z0 z0 z0 z0 z0 z0).2.2.2.2.2.2.2.2.2.2.2.2.2.2.2.2.2.2.2.2.2.2.2.2.2.1) ((f_X10_beginTheFirstOne z0 z0 z0 z0 z0 z0 z0 z0 z0 z0 z0 z0 z0 z0 z0).2.2.2.2.2.2.2.2.2.2.2.1) ((f_X10_beginTheFirstOne z0 z0 z0 z0 z0 z0 z0 z0 z0 z0 z0 z0 z0 z0 z0).2.2.2.2.2.2.2.2.1) ((f_X10_beginTheFirstOne z0 z0 z0 z0 z0 z0 z0 z0 z0 z0 z0 z0 z0 z0 z0).1) ((f_X10_beginTheFirstOne z0 z0 z0 z0 z0 z0 z0 z0 z0 z0 z0 z0 z0 z0 z0).2.2.2.2.2.2.2.2.2.2.2.2.2.2.2.2.2.2.2.2.2.2.2.2.1) ((f_X10_beginTheFirstOne z0 z0 z0 z0 z0 z0 z0 z0 z0 z0 z0 z0 z0 z0 z0).2.2.2.2.2.2.2.2.2.2.2.2.2.2.2.2.2.2.2.2.2.1) ((f_X10_beginTheFirstOne z0 z0 z0 z0 z0 z0 z0 z0 z0 z0 z0 z0 z0 z0 z0).2.2.2.2.2.1) ((f_X10_beginTheFirstOne z0 z0 z0 z0 z0 z0 z0 z0 z0 z0 z0 z0 z0 z0 z0).2.2.1) ((f_X10_beginTheFirstOne z0 z0 z0 z0 z0 z0 z0 z0 z0 z0 z0 z0 z0 z0 z0).2.2.2.2.1) ((f_X10_beginTheFirstOne z0 z0 z0 z0 z0 z0 z0 z0 z0 z0 z0 z0 z0 z0 z0).2.2.2.2.2.2.2.2.2.1) ((f_X10_beginTheFirstOne z0 z0 z0 z0 z0 z0 z0 z0 z0 z0 z0 z0 z0 z0 z0).2.2.2.2.2.2.2.2.2.2.2.2.2.2.2.2.2.2.2.2.2.2.2.1) z0 ((f_X10_beginTheFirstOne z0 z0 z0 z0 z0 z0 z0 z0 z0 z0 z0 z0 z0 z0 z0).2.2.2.2.2.2.2.2.2.2.2.2.2.2.2.2.2.2.2.2.1) z0 ((f_X10_beginTheFirstOne z0 z0 z0 z0 z0 z0 z0 z0 z0 z0 z0 z0 z0 z0 z0).2.2.2.2.2.2.2.2.2.2.2.2.2.2.2.1) 0 0 (fun _ => st0) (fun _ => st0) z0 z0 0 (-2) 0 0 (-2) 2 0 ((f_X12_clear 2 (upd (upd z0 0 (-2)) 1 (-2)) z0 z0).2.1) z0 (upd (upd (upd (upd (upd (upd (upd (upd (upd (upd z0 0 90) 1 50) 2 50) 3 50) 4 50) 5 1) 6 1) 7 1) 8 3) 9 1) (upd (upd z0 0 33554432) 1 67108864) (upd (upd z0 0 (-2)) 1 (-2)) z0 ((f_X12_clear 2 (upd (upd z0 0 (-2)) 1 (-2)) z0 z0).2.2) z0 z0 ((f_X12_clear 2 (upd (upd z0 0 (-2)) 1 (-2)) z0 z0).1) := by
  refine ⟨su_first, ?_, ?_, ?_, tp_first, rfl, ?_⟩
  · exact st_first
  · exact hi_first _ _
  · exact ke_first _ _
  · decide
/-- YOUR PART: from the entry, for every script of at most 3072 ints, the law comes to its end with true -/
theorem whole_start {p : Program} {e : Env} {s : State} {m : MethodId} {below : List Frame} {meth : Method} {c : Code} (l : Launch) (hflags : l.flags = flags0) {b L : Nat} {xs : Nat → Int32} (hL : L ≤ 3072) (C0 : lw_At p s m meth c b L xs) : W p l e room_1 s m #[Value.ref b] below meth c s.heap [] 0 0 (lw_Z below #[Value.ref b] s) (entryFrame m ([Value.ref b] : List Value).toArray 8) := by
  obtain ⟨hx, hb, hr, hml, hown, hts0, hX, hbl, hlocks, hgv⟩ := id C0
  have hts : ∀ w ∈ lw_all, w.before #[Value.ref b] s = true := fun w h => hts0 w (lw_all_tbl w h)
  obtain ⟨A, hAe⟩ : ∃ A : Nat → Prop, ∀ q, A q ↔ s.heap.size ≤ q := ⟨fun q => s.heap.size ≤ q, fun _ => Iff.rfl⟩
  have hA1 : ∀ a : Nat, a < s.heap.size → ¬ A a := fun a h z => Nat.not_le.mpr h ((hAe a).mp z)
  obtain ⟨adK, adV, hEV⟩ := start_EV hts0 hgv hA1
  obtain ⟨D, hK, hD1, hD2⟩ := start_K hts (start_AO hts0) adK adV
  have C1 : LCtx D A p m c s b L xs := ⟨⟨hx, hb, hml, hown, hts⟩, hK, hEV D hD1 hD2, hX, hbl, hA1 b hbl⟩
  have hA : ∀ q : Nat, s.heap.size ≤ q → A q := fun q h => (hAe q).mpr h
  have hS : va_S A (s.setDrawn s.drawn).heap s.heap [] := va_S.rf
  have hP : va_P D vwCl [] s.heap := fun k q h => by simp at h
  have hD : va_D A [] := ⟨fun i j p q h => by simp at h, fun k q h => by simp at h⟩
  have hAs : ∀ q : Nat, A q → s.heap.size ≤ q := fun q h => (hAe q).mp h
  obtain ⟨α, hα⟩ : ∃ α : Nat → Nat, ∀ i, α i = s.heap.size + i := ⟨fun i => s.heap.size + i, fun _ => rfl⟩
  refine W.base ?_
  obtain ⟨S, hK, hE, hX, hbl, hbA⟩ := C1.drawn s.drawn
  have hl := lv_entry ([.ref b]) (n := 8) (Nat.le_of_ble_eq_true rfl)
  rw [lg_entry_eq]
  generalize (lg_sl ([.ref b]) ++ List.replicate (8 - (lg_sl ([.ref b])).length) Slot.unset).toArray = ls at hl ⊢
  have hl : lv_has ls 8 [(0, .ref b)] := hl
  have ea : s.heap.size = α 0 := (hα 0).symm
  refine g_new (ws := []) (fs := [.null, .null, .null, .null, .null, .null, .null, .null, .null, .int 0]) S hK hP hD hS (hA _ (Nat.le_refl _)) inX11 tyX11_ok (ci := 11) rfl qw21 qw22 qw1 dfX11 (Nat.le_of_ble_eq_true rfl) (Nat.le_of_ble_eq_true rfl) dL_law_0 (fun H hz hP hD hS => ?_)
  rw [ea] at hP hD ⊢
  have hP : va_P D vwCl ([] ++ [cO α (0 + 0) 11 [.null, .null, .null, .null, .null, .null, .null, .null, .null, .int 0]]) H := hP
  have hD : va_D A ([] ++ [cO α (0 + 0) 11 [.null, .null, .null, .null, .null, .null, .null, .null, .null, .int 0]]) := hD
  refine lv_dup S.1 S.2.1 dL_law_3 rfl ?_
  refine g_aft (rest := [.ref (α 0)]) (g_Nc (As := []) (rest := [.ref (α 0)]) S mc_X11_init qw23 (c_X11_init l D A α s.heap.size (fun i _ => by rw [Nat.zero_add]; exact hα i) hA) hK hP hD hE hS hz rfl rfl hl.1 (Nat.le_of_ble_eq_true rfl) rfl rfl ⟨(Nat.le_of_ble_eq_true rfl), (Nat.le_of_ble_eq_true rfl)⟩ ⟨(Nat.le_of_ble_eq_true rfl), (Nat.le_of_ble_eq_true rfl)⟩ dL_law_4) hS rfl (fun w1 H locs hQ hP hD hS => ?_)
  obtain ⟨hV, hw⟩ := hQ
  refine lv_astore_n (lv' := [(1, .ref (α 0)), (0, .ref b)]) S.1 S.2.1 dL_law_7 rfl hl (by decide) rfl (fun ls hl => ?_)
  refine l_size (q := 233) (a := α 233) hP (hV.2.2.2.2.2.2.2 2 _ rfl) (by rw [hα]; exact rfl) (fun hz => ?_)
  have hz' : H.size = α 234 := by rw [hz, hα, hα]
  refine g_new (ws := w1) (fs := [.null, .int 0, .int 0, .null, .int 0, .int 0, .null, .null, .null, .null, .null, .null, .null, .int 0, .int 0, .int 0, .int 0, .long 0, .int 0, .int 0, .int 0, .int 0, .int 0, .null, .null, .null, .null, .int 0, .int 0, .int 0]) S hK hP hD hS (hA _ (by rw [hz', hα]; exact Nat.le_add_right _ _)) inX12 tyX12_ok (ci := 12) rfl qw1352 qw1353 qw14 dfX12 (Nat.le_of_ble_eq_true rfl) (Nat.le_of_ble_eq_true rfl) dL_law_8 (fun H2 hz2 hP hD hS => ?_)
  rw [hz'] at hP hD ⊢
  have hP : va_P D vwCl (w1 ++ [cO α (234 + 0) 12 [.null, .int 0, .int 0, .null, .int 0, .int 0, .null, .null, .null, .null, .null, .null, .null, .int 0, .int 0, .int 0, .int 0, .long 0, .int 0, .int 0, .int 0, .int 0, .int 0, .null, .null, .null, .null, .int 0, .int 0, .int 0]]) H2 := hP
  have hD : va_D A (w1 ++ [cO α (234 + 0) 12 [.null, .int 0, .int 0, .null, .int 0, .int 0, .null, .null, .null, .null, .null, .null, .null, .int 0, .int 0, .int 0, .int 0, .long 0, .int 0, .int 0, .int 0, .int 0, .int 0, .null, .null, .null, .null, .int 0, .int 0, .int 0]]) := hD
  have hz3 : H2.size = α 234 + 1 := by rw [hz2, hz']
  refine lv_dup S.1 S.2.1 dL_law_11 rfl ?_
  refine g_aft (rest := [.ref (α 234)]) (g_Nc (As := []) (rest := [.ref (α 234)]) S mc_X12_init qw1354 (c_X12_init l D A α 234 (α 234) w1 hw (fun i _ => by rw [hα, hα, Nat.add_assoc]) (fun q hq => hA q (by rw [hα] at hq; omega))) hK hP hD hE hS hz3 rfl rfl hl.1 (Nat.le_of_ble_eq_true rfl) rfl rfl ⟨(Nat.le_of_ble_eq_true rfl), (Nat.le_of_ble_eq_true rfl)⟩ ⟨(Nat.le_of_ble_eq_true rfl), (Nat.le_of_ble_eq_true rfl)⟩ dL_law_12) hS rfl (fun w2 H locs hQ hP hD hS => ?_)
  obtain ⟨hB, hw2, hsame⟩ := hQ
  have hV2 := hV.agree hsame
  refine lv_astore_n (lv' := [(2, .ref (α 234)), (1, .ref (α 0)), (0, .ref b)]) S.1 S.2.1 dL_law_15 rfl hl (by decide) rfl (fun ls hl => ?_)
  refine lv_iconst (v := 0) S.1 S.2.1 dL_law_16 (by decide) ?_
  refine lv_istore_n (lv' := [(3, .int 0), (2, .ref (α 234)), (1, .ref (α 0)), (0, .ref b)]) S.1 S.2.1 dL_law_17 rfl hl (by decide) rfl (fun ls hl => ?_)
  exact law_loop hAs hL hr hlocks (L + 1) 0 s.drawn w2 H locs ls (by omega) (Nat.zero_le _) (Drawn.sameBut.refl s.drawn lw_cs) (C1.drawn s.drawn) (INV.mk hV2 hB ra_first) hP hD hS (lv_sub hl [3, 2, 1, 0] rfl)
