
/-- a counter that starts anywhere -/
def ofs_ (a : Int32) : Nat → Int32
  | 0 => a
  | n + 1 => ofs_ a n + 1
theorem ofs_nI (i : Nat) : ∀ n, ofs_ (nI i) n = nI (i + n)
  | 0 => rfl
  | n + 1 => by rw [ofs_, ofs_nI i n, ← nI_succ, Nat.add_assoc]
/-- the powers of ten of a number's digits, as longs -/
def tl_ (n : Nat) (u : Int64) (d : Int32) : Prop := ∃ k, u = lN (10 ^ k) ∧ d = nI (k + 1) ∧ k ≤ 10 ∧ k + n = 11
theorem tl_0 {u : Int64} {d : Int32} : ¬ tl_ 0 u d := fun ⟨k, _, _, h, h2⟩ => by omega
theorem tl_1 : tl_ 11 1 1 := ⟨0, rfl, rfl, by decide, by decide⟩
theorem p10l : ∀ k, k ≤ 11 → 0 < 10 ^ k ∧ 10 ^ k ≤ 100000000000 := by decide
theorem tl_s {n : Nat} {u : Int64} {d : Int32} (h : tl_ (n + 1) u d) (c : ¬ 11 ≤ d) : tl_ n (u * 10) (d + 1) := by
  obtain ⟨k, rfl, rfl, h1, h2⟩ := h
  have hk : k ≠ 10 := by
    rintro rfl
    exact c (by decide)
  refine ⟨k + 1, ?_, (nI_succ _).symm, by omega, by omega⟩
  rw [show (10 : Int64) = lN 10 from rfl, lN_mul, Nat.pow_succ]
def tk_ (n : Nat) (u : Int64) : Prop := (u = 0 ∧ 1 ≤ n) ∨ ∃ k, u = lN (10 ^ k) ∧ k ≤ 10 ∧ k + 2 ≤ n
theorem tk_0 {u : Int64} : ¬ tk_ 0 u := fun h => by
  rcases h with ⟨_, h⟩ | ⟨k, _, _, h⟩ <;> omega
theorem tk_of {n : Nat} {u : Int64} {d : Int32} (h : tl_ n u d) : tk_ 12 u := by
  obtain ⟨k, h1, _, h2, _⟩ := h
  exact Or.inr ⟨k, h1, h2, by omega⟩
theorem tk_s {n : Nat} {u : Int64} (h : tk_ (n + 1) u) (c : ¬ u ≤ 0) : tk_ n (u / 10) := by
  rcases h with ⟨rfl, h⟩ | ⟨k, rfl, h1, h2⟩
  · exact absurd (by decide) c
  · have hp := p10l k (by omega)
    rw [show (10 : Int64) = lN 10 from rfl, pk_lDiv (by omega) (by decide) (by decide)]
    cases k with
    | zero => exact Or.inl ⟨rfl, by omega⟩
    | succ k => exact Or.inr ⟨k, by rw [Nat.pow_succ, Nat.mul_div_cancel _ (by decide)], by omega, by omega⟩
theorem lpos_ne {u : Int64} (h : ¬ u ≤ 0) : ¬ u = 0 := fun e => h (by rw [e]; decide)
theorem strLen_lt (i : Nat) : strLen.getD i 0 < 100 := by
  rw [List.getD_eq_getElem?_getD]
  cases h : strLen[i]? with
  | none => decide
  | some x => exact (show ∀ q ∈ strLen, q < 100 by decide) x (List.mem_of_getElem? h)
noncomputable def S_X1_addWhole_11 (cap : Nat) (f : Nat → Int32) (len : Int32) (x : Int32) : (Nat → Int32) × Int32 := (f_X1_add cap f len ((x.toUInt32 >>> ((24 : Int32).toUInt32 &&& Int32.toUInt32 31)).toInt32))
noncomputable def S_X1_addWhole_11a (cap : Nat) (f : Nat → Int32) (len : Int32) (x : Int32) : (Nat → Int32) × Int32 := (f_X1_add cap ((S_X1_addWhole_11 cap f len x).1) ((S_X1_addWhole_11 cap f len x).2) ((x.toUInt32 >>> ((16 : Int32).toUInt32 &&& Int32.toUInt32 31)).toInt32))
noncomputable def S_X1_addWhole_11b (cap : Nat) (f : Nat → Int32) (len : Int32) (x : Int32) : (Nat → Int32) × Int32 := (f_X1_add cap ((S_X1_addWhole_11a cap f len x).1) ((S_X1_addWhole_11a cap f len x).2) ((x.toUInt32 >>> ((8 : Int32).toUInt32 &&& Int32.toUInt32 31)).toInt32))
noncomputable def S_X1_addWhole_11c (cap : Nat) (f : Nat → Int32) (len : Int32) (x : Int32) : (Nat → Int32) × Int32 := (f_X1_add cap ((S_X1_addWhole_11b cap f len x).1) ((S_X1_addWhole_11b cap f len x).2) ((x.toUInt32 >>> ((0 : Int32).toUInt32 &&& Int32.toUInt32 31)).toInt32))
noncomputable def f_X1_addWhole (cap : Nat) (f : Nat → Int32) (len : Int32) (x : Int32) : (Nat → Int32) × Int32 := ((S_X1_addWhole_11c cap f len x).1, (S_X1_addWhole_11c cap f len x).2)
set_option maxHeartbeats 4000000 in
set_option maxRecDepth 100000 in
theorem c_X1_addWhole (l : Launch) (D : va_G) (A : Nat → Prop) (w : va_W) (α : Nat → Nat) (k : Nat) (cap : Nat) (f : Nat → Int32) (len : Int32) (x : Int32) (hB0 : Blk w k (cBytes D α k cap f len)) (hy0 : cap < 2147483648) : Met l yX1_addWhole (ws_ yX1_addWhole cX1_addWhole 3 none) ({ frames := 1, cells := 0, slots := 0, locals := 21 }) (gPre D A [.ref (α (k)), .int x] w) (gQ D A none (fun w1 => Blk w1 k (cBytes D α k cap ((f_X1_addWhole cap f len x).1) ((f_X1_addWhole cap f len x).2)) ∧ Same w w1 k 2)) 0 0 A := by
  refine g_met [(0, .ref (α (k))), (1, .int x)] (plainFor_of_name (by decide)) (Nat.le_of_ble_eq_true rfl) rfl (fun pg en s mi ar below me co ls S hK hP hD hE hS hr hlk hnm hl => ?_)
  have hF : Same w w k 2 := Same.rf
  refine lv_bipush (v := 24) S.1 S.2.1 dX1_addWhole_0 (by decide) ?_
  refine lv_istore_n (lv' := [(2, .int 24), (0, .ref (α (k))), (1, .int x)]) S.1 S.2.1 dX1_addWhole_2 rfl hl (by decide) rfl (fun ls hl => ?_)
  refine lv_iload_n S.1 S.2.1 dX1_addWhole_3 rfl (lv_at hl 0 rfl) ?_
  refine lv_if_lt (tgt := 20) S.1 S.2.1 dX1_addWhole_4 (by decide) (fun c1 => absurd c1 (by decide)) (fun _ => ?_)
  refine lv_aload_n S.1 S.2.1 dX1_addWhole_7 rfl (lv_at hl 1 rfl) ?_
  refine lv_iload_n S.1 S.2.1 dX1_addWhole_8 rfl (lv_at hl 2 rfl) ?_
  refine lv_iload_n S.1 S.2.1 dX1_addWhole_9 rfl (lv_at hl 0 rfl) ?_
  refine lv_iushr (v := (x.toUInt32 >>> ((24 : Int32).toUInt32 &&& Int32.toUInt32 31)).toInt32) S.1 S.2.1 dX1_addWhole_10 rfl ?_
  have hNm : (f_X1_add cap f len ((x.toUInt32 >>> ((24 : Int32).toUInt32 &&& Int32.toUInt32 31)).toInt32)) = (S_X1_addWhole_11 cap f len x) := rfl
  have hCon := (c_X1_add l D A w α (k) cap f len ((x.toUInt32 >>> ((24 : Int32).toUInt32 &&& Int32.toUInt32 31)).toInt32) hB0 (hy0))
  rw [hNm] at hCon
  refine g_aft0 (st1 := []) (g_V (As := [.int ((x.toUInt32 >>> ((24 : Int32).toUInt32 &&& Int32.toUInt32 31)).toInt32)]) (rest := []) S mi_X1_add qw596 hCon hK hP hD hE hS (hB0 0 _ rfl) rfl rfl rfl hl.1 (Nat.le_of_ble_eq_true rfl) rfl rfl ⟨(Nat.le_of_ble_eq_true rfl), (Nat.le_of_ble_eq_true rfl)⟩ ⟨(Nat.le_of_ble_eq_true rfl), (Nat.le_of_ble_eq_true rfl)⟩ dX1_addWhole_11) hS rfl (fun w1 H locs hQ hP hD hS => ?_)
  have hF := hF.trans hQ.2
  have hB0 : Blk w1 k (cBytes D α k cap ((S_X1_addWhole_11 cap f len x).1) ((S_X1_addWhole_11 cap f len x).2)) := hQ.1
  refine lv_iinc (v := 16) (lv' := [(2, .int 16), (0, .ref (α (k))), (1, .int x)]) S.1 S.2.1 dX1_addWhole_14 hl (k := 0) rfl (by decide) (by decide) rfl (fun ls hl => ?_)
  refine lv_goto (tgt := 3) S.1 S.2.1 dX1_addWhole_17 (by decide) ?_
  refine lv_iload_n S.1 S.2.1 dX1_addWhole_3 rfl (lv_at hl 0 rfl) ?_
  refine lv_if_lt (tgt := 20) S.1 S.2.1 dX1_addWhole_4 (by decide) (fun c2 => absurd c2 (by decide)) (fun _ => ?_)
  refine lv_aload_n S.1 S.2.1 dX1_addWhole_7 rfl (lv_at hl 1 rfl) ?_
  refine lv_iload_n S.1 S.2.1 dX1_addWhole_8 rfl (lv_at hl 2 rfl) ?_
  refine lv_iload_n S.1 S.2.1 dX1_addWhole_9 rfl (lv_at hl 0 rfl) ?_
  refine lv_iushr (v := (x.toUInt32 >>> ((16 : Int32).toUInt32 &&& Int32.toUInt32 31)).toInt32) S.1 S.2.1 dX1_addWhole_10 rfl ?_
  have hNm : (f_X1_add cap ((S_X1_addWhole_11 cap f len x).1) ((S_X1_addWhole_11 cap f len x).2) ((x.toUInt32 >>> ((16 : Int32).toUInt32 &&& Int32.toUInt32 31)).toInt32)) = (S_X1_addWhole_11a cap f len x) := rfl
  have hCon := (c_X1_add l D A w1 α (k) cap ((S_X1_addWhole_11 cap f len x).1) ((S_X1_addWhole_11 cap f len x).2) ((x.toUInt32 >>> ((16 : Int32).toUInt32 &&& Int32.toUInt32 31)).toInt32) hB0 (hy0))
  rw [hNm] at hCon
  refine g_aft0 (st1 := []) (g_V (As := [.int ((x.toUInt32 >>> ((16 : Int32).toUInt32 &&& Int32.toUInt32 31)).toInt32)]) (rest := []) S mi_X1_add qw596 hCon hK hP hD hE hS (hB0 0 _ rfl) rfl rfl rfl hl.1 (Nat.le_of_ble_eq_true rfl) rfl rfl ⟨(Nat.le_of_ble_eq_true rfl), (Nat.le_of_ble_eq_true rfl)⟩ ⟨(Nat.le_of_ble_eq_true rfl), (Nat.le_of_ble_eq_true rfl)⟩ dX1_addWhole_11) hS rfl (fun w2 H locs hQ hP hD hS => ?_)
  have hF := hF.trans hQ.2
  have hB0 : Blk w2 k (cBytes D α k cap ((S_X1_addWhole_11a cap f len x).1) ((S_X1_addWhole_11a cap f len x).2)) := hQ.1
  refine lv_iinc (v := 8) (lv' := [(2, .int 8), (0, .ref (α (k))), (1, .int x)]) S.1 S.2.1 dX1_addWhole_14 hl (k := 0) rfl (by decide) (by decide) rfl (fun ls hl => ?_)
  refine lv_goto (tgt := 3) S.1 S.2.1 dX1_addWhole_17 (by decide) ?_
  refine lv_iload_n S.1 S.2.1 dX1_addWhole_3 rfl (lv_at hl 0 rfl) ?_
  refine lv_if_lt (tgt := 20) S.1 S.2.1 dX1_addWhole_4 (by decide) (fun c3 => absurd c3 (by decide)) (fun _ => ?_)
  refine lv_aload_n S.1 S.2.1 dX1_addWhole_7 rfl (lv_at hl 1 rfl) ?_
  refine lv_iload_n S.1 S.2.1 dX1_addWhole_8 rfl (lv_at hl 2 rfl) ?_
  refine lv_iload_n S.1 S.2.1 dX1_addWhole_9 rfl (lv_at hl 0 rfl) ?_
  refine lv_iushr (v := (x.toUInt32 >>> ((8 : Int32).toUInt32 &&& Int32.toUInt32 31)).toInt32) S.1 S.2.1 dX1_addWhole_10 rfl ?_
  have hNm : (f_X1_add cap ((S_X1_addWhole_11a cap f len x).1) ((S_X1_addWhole_11a cap f len x).2) ((x.toUInt32 >>> ((8 : Int32).toUInt32 &&& Int32.toUInt32 31)).toInt32)) = (S_X1_addWhole_11b cap f len x) := rfl
  have hCon := (c_X1_add l D A w2 α (k) cap ((S_X1_addWhole_11a cap f len x).1) ((S_X1_addWhole_11a cap f len x).2) ((x.toUInt32 >>> ((8 : Int32).toUInt32 &&& Int32.toUInt32 31)).toInt32) hB0 (hy0))
  rw [hNm] at hCon
  refine g_aft0 (st1 := []) (g_V (As := [.int ((x.toUInt32 >>> ((8 : Int32).toUInt32 &&& Int32.toUInt32 31)).toInt32)]) (rest := []) S mi_X1_add qw596 hCon hK hP hD hE hS (hB0 0 _ rfl) rfl rfl rfl hl.1 (Nat.le_of_ble_eq_true rfl) rfl rfl ⟨(Nat.le_of_ble_eq_true rfl), (Nat.le_of_ble_eq_true rfl)⟩ ⟨(Nat.le_of_ble_eq_true rfl), (Nat.le_of_ble_eq_true rfl)⟩ dX1_addWhole_11) hS rfl (fun w3 H locs hQ hP hD hS => ?_)
  have hF := hF.trans hQ.2
  have hB0 : Blk w3 k (cBytes D α k cap ((S_X1_addWhole_11b cap f len x).1) ((S_X1_addWhole_11b cap f len x).2)) := hQ.1
  refine lv_iinc (v := 0) (lv' := [(2, .int 0), (0, .ref (α (k))), (1, .int x)]) S.1 S.2.1 dX1_addWhole_14 hl (k := 0) rfl (by decide) (by decide) rfl (fun ls hl => ?_)
  refine lv_goto (tgt := 3) S.1 S.2.1 dX1_addWhole_17 (by decide) ?_
  refine lv_iload_n S.1 S.2.1 dX1_addWhole_3 rfl (lv_at hl 0 rfl) ?_
  refine lv_if_lt (tgt := 20) S.1 S.2.1 dX1_addWhole_4 (by decide) (fun c4 => absurd c4 (by decide)) (fun _ => ?_)
  refine lv_aload_n S.1 S.2.1 dX1_addWhole_7 rfl (lv_at hl 1 rfl) ?_
  refine lv_iload_n S.1 S.2.1 dX1_addWhole_8 rfl (lv_at hl 2 rfl) ?_
  refine lv_iload_n S.1 S.2.1 dX1_addWhole_9 rfl (lv_at hl 0 rfl) ?_
  refine lv_iushr (v := (x.toUInt32 >>> ((0 : Int32).toUInt32 &&& Int32.toUInt32 31)).toInt32) S.1 S.2.1 dX1_addWhole_10 rfl ?_
  have hNm : (f_X1_add cap ((S_X1_addWhole_11b cap f len x).1) ((S_X1_addWhole_11b cap f len x).2) ((x.toUInt32 >>> ((0 : Int32).toUInt32 &&& Int32.toUInt32 31)).toInt32)) = (S_X1_addWhole_11c cap f len x) := rfl
  have hCon := (c_X1_add l D A w3 α (k) cap ((S_X1_addWhole_11b cap f len x).1) ((S_X1_addWhole_11b cap f len x).2) ((x.toUInt32 >>> ((0 : Int32).toUInt32 &&& Int32.toUInt32 31)).toInt32) hB0 (hy0))
  rw [hNm] at hCon
  refine g_aft0 (st1 := []) (g_V (As := [.int ((x.toUInt32 >>> ((0 : Int32).toUInt32 &&& Int32.toUInt32 31)).toInt32)]) (rest := []) S mi_X1_add qw596 hCon hK hP hD hE hS (hB0 0 _ rfl) rfl rfl rfl hl.1 (Nat.le_of_ble_eq_true rfl) rfl rfl ⟨(Nat.le_of_ble_eq_true rfl), (Nat.le_of_ble_eq_true rfl)⟩ ⟨(Nat.le_of_ble_eq_true rfl), (Nat.le_of_ble_eq_true rfl)⟩ dX1_addWhole_11) hS rfl (fun w4 H locs hQ hP hD hS => ?_)
  have hF := hF.trans hQ.2
  have hB0 : Blk w4 k (cBytes D α k cap ((S_X1_addWhole_11c cap f len x).1) ((S_X1_addWhole_11c cap f len x).2)) := hQ.1
  refine lv_iinc (v := (-8)) (lv' := [(2, .int (-8)), (0, .ref (α (k))), (1, .int x)]) S.1 S.2.1 dX1_addWhole_14 hl (k := 0) rfl (by decide) (by decide) rfl (fun ls hl => ?_)
  refine lv_goto (tgt := 3) S.1 S.2.1 dX1_addWhole_17 (by decide) ?_
  refine lv_iload_n S.1 S.2.1 dX1_addWhole_3 rfl (lv_at hl 0 rfl) ?_
  refine lv_if_lt (tgt := 20) S.1 S.2.1 dX1_addWhole_4 (by decide) (fun _ => ?_) (fun c5 => absurd c5 (by decide))
  have hf : (f_X1_addWhole cap f len x) = ((S_X1_addWhole_11c cap f len x).1, (S_X1_addWhole_11c cap f len x).2) := rfl
  exact g_vret S hr hlk hP hD hS (rfl) (⟨by rw [hf]; dsimp only; exact hB0, hF⟩) dX1_addWhole_20
noncomputable def S_X1_addText_16 (cap : Nat) (f : Nat → Int32) (len : Int32) (x : Nat) (n : Nat) (sn : (Nat → Int32) × Int32) : (Nat → Int32) × Int32 := (f_X1_add cap (sn.1) (sn.2) (sCh x (nI n)))
noncomputable def G_X1_addText_2 (cap : Nat) (f : Nat → Int32) (len : Int32) (x : Nat) (n : Nat) (sn : (Nat → Int32) × Int32) : (Nat → Int32) × Int32 := ((S_X1_addText_16 cap f len x n sn).1, (S_X1_addText_16 cap f len x n sn).2)
noncomputable def L_X1_addText_2 (cap : Nat) (f : Nat → Int32) (len : Int32) (x : Nat) : Nat → (Nat → Int32) × Int32 := iter_ (G_X1_addText_2 cap f len x) (f, len)
noncomputable def f_X1_addText (cap : Nat) (f : Nat → Int32) (len : Int32) (x : Nat) : (Nat → Int32) × Int32 := ((L_X1_addText_2 cap f len x (strLen.getD x 0)).1, (L_X1_addText_2 cap f len x (strLen.getD x 0)).2)
set_option maxHeartbeats 4000000 in
set_option maxRecDepth 100000 in
theorem c_X1_addText (l : Launch) (D : va_G) (A : Nat → Prop) (w : va_W) (α : Nat → Nat) (k : Nat) (cap : Nat) (f : Nat → Int32) (len : Int32) (x : Nat) (hB0 : Blk w k (cBytes D α k cap f len)) (hy0 : cap < 2147483648) (hy1 : x < strLen.length) : Met l yX1_addText (ws_ yX1_addText cX1_addText 3 none) ({ frames := 4, cells := 0, slots := 0, locals := 85 }) (gPre D A [.ref (α (k)), .ref (D.2 200 x)] w) (gQ D A none (fun w1 => Blk w1 k (cBytes D α k cap ((f_X1_addText cap f len x).1) ((f_X1_addText cap f len x).2)) ∧ Same w w1 k 2)) 0 0 A := by
  refine g_met [(0, .ref (α (k))), (1, .ref (D.2 200 x))] (plainFor_of_name (by decide)) (Nat.le_of_ble_eq_true rfl) rfl (fun pg en s mi ar below me co ls S hK hP hD hE hS hr hlk hnm hl => ?_)
  have hF : Same w w k 2 := Same.rf
  have hsl := strLen_lt x
  refine lv_iconst (v := 0) S.1 S.2.1 dX1_addText_0 (by decide) ?_
  refine lv_istore_n (lv' := [(2, .int 0), (0, .ref (α (k))), (1, .ref (D.2 200 x))]) S.1 S.2.1 dX1_addText_1 rfl hl (by decide) rfl (fun ls hl => ?_)
  have lp2 : ∀ (j n : Nat), n + j = (strLen.getD x 0) → ∀ (wl : va_W) (H : Heap) (locs : List Loc) (ls : Array Slot), va_P D vwCl wl H → va_D A wl → va_S A s.heap H locs → Same w wl k 2 → Blk wl k (cBytes D α k cap ((L_X1_addText_2 cap f len x n).1) ((L_X1_addText_2 cap f len x n).2)) → lv_has ls 3 [(2, .int (nI n)), (0, .ref (α (k))), (1, .ref (D.2 200 x))] → W pg l en ({ frames := 4, cells := 0, slots := 0, locals := 85 } : Room) s mi ar below me co H locs 0 0 (MQ below (gQ D A none (fun w1 => Blk w1 k (cBytes D α k cap ((f_X1_addText cap f len x).1) ((f_X1_addText cap f len x).2)) ∧ Same w w1 k 2)) ar s 0 0 A) (F0 mi 2 ls []) := by
    intro j
    induction j with
    | zero =>
      intro n hn wl H locs ls hP hD hS hF hB0 hl
      have hn : (strLen.getD x 0) = n := hn.symm
      subst hn
      refine lv_iload_n S.1 S.2.1 dX1_addText_2 rfl (lv_at hl 0 rfl) ?_
      refine lv_aload_n S.1 S.2.1 dX1_addText_3 rfl (lv_at hl 2 rfl) ?_
      refine g_aftR0 (st1 := [.int (nI (strLen.getD x 0)), .int (nI (strLen.getD x 0))]) (g_Vs (As := []) (rest := [.int (nI (strLen.getD x 0))]) S mi_J0_length_8abf5 qw1441 (c_J0_length_8abf5 l D A wl x hy1) hK hP hD hE hS hy1 rfl rfl hl.1 (Nat.le_of_ble_eq_true rfl) rfl rfl ⟨(Nat.le_of_ble_eq_true rfl), (Nat.le_of_ble_eq_true rfl)⟩ ⟨(Nat.le_of_ble_eq_true rfl), (Nat.le_of_ble_eq_true rfl)⟩ dX1_addText_4) hS rfl (fun locs hS => ?_)
      refine lv_icmp_ge (tgt := 25) S.1 S.2.1 dX1_addText_7 (by decide) (fun (c1 : (nI (strLen.getD x 0)) ≤ (nI (strLen.getD x 0))) => ?_) (fun (c1 : ¬ (nI (strLen.getD x 0)) ≤ (nI (strLen.getD x 0))) => absurd c1 (lp_out0 ((nI_clamp (by omega)).symm)))
      have hf : (f_X1_addText cap f len x) = ((L_X1_addText_2 cap f len x (strLen.getD x 0)).1, (L_X1_addText_2 cap f len x (strLen.getD x 0)).2) := rfl
      exact g_vret S hr hlk hP hD hS (rfl) (⟨by rw [hf]; dsimp only; exact hB0, hF⟩) dX1_addText_25
    | succ j ih =>
      intro n hn wl H locs ls hP hD hS hF hB0 hl
      refine lv_iload_n S.1 S.2.1 dX1_addText_2 rfl (lv_at hl 0 rfl) ?_
      refine lv_aload_n S.1 S.2.1 dX1_addText_3 rfl (lv_at hl 2 rfl) ?_
      refine g_aftR0 (st1 := [.int (nI (strLen.getD x 0)), .int (nI n)]) (g_Vs (As := []) (rest := [.int (nI n)]) S mi_J0_length_8abf5 qw1441 (c_J0_length_8abf5 l D A wl x hy1) hK hP hD hE hS hy1 rfl rfl hl.1 (Nat.le_of_ble_eq_true rfl) rfl rfl ⟨(Nat.le_of_ble_eq_true rfl), (Nat.le_of_ble_eq_true rfl)⟩ ⟨(Nat.le_of_ble_eq_true rfl), (Nat.le_of_ble_eq_true rfl)⟩ dX1_addText_4) hS rfl (fun locs hS => ?_)
      refine lv_icmp_ge (tgt := 25) S.1 S.2.1 dX1_addText_7 (by decide) (fun (c2 : (nI (strLen.getD x 0)) ≤ (nI n)) => absurd c2 (lp_in0 ((nI_clamp (by omega)).symm) hn)) (fun (c2 : ¬ (nI (strLen.getD x 0)) ≤ (nI n)) => ?_)
      refine lv_aload_n S.1 S.2.1 dX1_addText_10 rfl (lv_at hl 1 rfl) ?_
      refine lv_aload_n S.1 S.2.1 dX1_addText_11 rfl (lv_at hl 2 rfl) ?_
      refine lv_iload_n S.1 S.2.1 dX1_addText_12 rfl (lv_at hl 0 rfl) ?_
      refine g_aftR0 (st1 := [.int (sCh x (nI n)), .ref (α (k))]) (g_Vs (As := [.int (nI n)]) (rest := [.ref (α (k))]) S mi_J0_charAt_5068e qw1442 (c_J0_charAt_5068e l D A wl x hy1 (nI n) (vp_in_nI (lp_lt hn) (by omega))) hK hP hD hE hS hy1 rfl rfl hl.1 (Nat.le_of_ble_eq_true rfl) rfl rfl ⟨(Nat.le_of_ble_eq_true rfl), (Nat.le_of_ble_eq_true rfl)⟩ ⟨(Nat.le_of_ble_eq_true rfl), (Nat.le_of_ble_eq_true rfl)⟩ dX1_addText_13) hS rfl (fun locs hS => ?_)
      have hNm : (f_X1_add cap ((L_X1_addText_2 cap f len x n).1) ((L_X1_addText_2 cap f len x n).2) (sCh x (nI n))) = (S_X1_addText_16 cap f len x n (L_X1_addText_2 cap f len x n)) := rfl
      have hCon := (c_X1_add l D A wl α (k) cap ((L_X1_addText_2 cap f len x n).1) ((L_X1_addText_2 cap f len x n).2) (sCh x (nI n)) hB0 (hy0))
      rw [hNm] at hCon
      refine g_aft0 (st1 := []) (g_V (As := [.int (sCh x (nI n))]) (rest := []) S mi_X1_add qw596 hCon hK hP hD hE hS (hB0 0 _ rfl) rfl rfl rfl hl.1 (Nat.le_of_ble_eq_true rfl) rfl rfl ⟨(Nat.le_of_ble_eq_true rfl), (Nat.le_of_ble_eq_true rfl)⟩ ⟨(Nat.le_of_ble_eq_true rfl), (Nat.le_of_ble_eq_true rfl)⟩ dX1_addText_16) hS rfl (fun w1 H locs hQ hP hD hS => ?_)
      have hF := hF.trans hQ.2
      have hB0 : Blk w1 k (cBytes D α k cap ((S_X1_addText_16 cap f len x n (L_X1_addText_2 cap f len x n)).1) ((S_X1_addText_16 cap f len x n (L_X1_addText_2 cap f len x n)).2)) := hQ.1
      refine lv_iinc (v := (nI (n + 1))) (lv' := [(2, .int (nI (n + 1))), (0, .ref (α (k))), (1, .ref (D.2 200 x))]) S.1 S.2.1 dX1_addText_19 hl (k := 0) rfl ((nI_succ n).symm) (by decide) rfl (fun ls hl => ?_)
      refine lv_goto (tgt := 2) S.1 S.2.1 dX1_addText_22 (by decide) ?_
      have hL : (L_X1_addText_2 cap f len x (n + 1)) = ((S_X1_addText_16 cap f len x n (L_X1_addText_2 cap f len x n)).1, (S_X1_addText_16 cap f len x n (L_X1_addText_2 cap f len x n)).2) := (iter_s _ _ _).trans (show (G_X1_addText_2 cap f len x n (L_X1_addText_2 cap f len x n)) = ((S_X1_addText_16 cap f len x n (L_X1_addText_2 cap f len x n)).1, (S_X1_addText_16 cap f len x n (L_X1_addText_2 cap f len x n)).2) from rfl)
      refine ih (n + 1) (lp_n hn) _ _ _ _ hP hD hS hF ?_ ?_
      · rw [hL]; (try dsimp only); exact hB0
      · exact lv_sub hl [0, 1, 2] rfl
  have hL0 : (L_X1_addText_2 cap f len x 0) = (f, len) := iter_z _ _
  exact lp2 (strLen.getD x 0) 0 (Nat.zero_add (strLen.getD x 0)) _ _ _ _ hP hD hS hF (by rw [hL0]; exact hB0) (lv_sub hl [0, 1, 2] rfl)
noncomputable def S_X1_addName_25 (cap : Nat) (f : Nat → Int32) (len : Int32) (x : Int32) (n : Nat) (sn : (Nat → Int32) × Int32) : (Nat → Int32) × Int32 := (f_X1_add cap (sn.1) (sn.2) ((97 + ((x >>> ((sh5 (n)) &&& 31)) &&& 31)) - 1))
noncomputable def J_X1_addName_15 (cap : Nat) (f : Nat → Int32) (len : Int32) (x : Int32) (n : Nat) (sn : (Nat → Int32) × Int32) : (Nat → Int32) × Int32 := (if ((x >>> ((sh5 (n)) &&& 31)) &&& 31) = 0 then (sn.1, sn.2) else ((S_X1_addName_25 cap f len x n sn).1, (S_X1_addName_25 cap f len x n sn).2))
noncomputable def G_X1_addName_3 (cap : Nat) (f : Nat → Int32) (len : Int32) (x : Int32) (n : Nat) (sn : (Nat → Int32) × Int32) : (Nat → Int32) × Int32 := ((J_X1_addName_15 cap f len x n sn).1, (J_X1_addName_15 cap f len x n sn).2)
noncomputable def L_X1_addName_3 (cap : Nat) (f : Nat → Int32) (len : Int32) (x : Int32) : Nat → (Nat → Int32) × Int32 := iter_ (G_X1_addName_3 cap f len x) (f, len)
noncomputable def f_X1_addName (cap : Nat) (f : Nat → Int32) (len : Int32) (x : Int32) : (Nat → Int32) × Int32 := ((L_X1_addName_3 cap f len x 6).1, (L_X1_addName_3 cap f len x 6).2)
set_option maxHeartbeats 4000000 in
set_option maxRecDepth 100000 in
theorem c_X1_addName (l : Launch) (D : va_G) (A : Nat → Prop) (w : va_W) (α : Nat → Nat) (k : Nat) (cap : Nat) (f : Nat → Int32) (len : Int32) (x : Int32) (hB0 : Blk w k (cBytes D α k cap f len)) (hy0 : cap < 2147483648) : Met l yX1_addName (ws_ yX1_addName cX1_addName 4 none) ({ frames := 1, cells := 0, slots := 0, locals := 21 }) (gPre D A [.ref (α (k)), .int x] w) (gQ D A none (fun w1 => Blk w1 k (cBytes D α k cap ((f_X1_addName cap f len x).1) ((f_X1_addName cap f len x).2)) ∧ Same w w1 k 2)) 0 0 A := by
  refine g_met [(0, .ref (α (k))), (1, .int x)] (plainFor_of_name (by decide)) (Nat.le_of_ble_eq_true rfl) rfl (fun pg en s mi ar below me co ls S hK hP hD hE hS hr hlk hnm hl => ?_)
  have hF : Same w w k 2 := Same.rf
  refine lv_bipush (v := 25) S.1 S.2.1 dX1_addName_0 (by decide) ?_
  refine lv_istore_n (lv' := [(2, .int 25), (0, .ref (α (k))), (1, .int x)]) S.1 S.2.1 dX1_addName_2 rfl hl (by decide) rfl (fun ls hl => ?_)
  have lp3 : ∀ (j n : Nat), n + j = 6 → ∀ (wl : va_W) (H : Heap) (locs : List Loc) (ls : Array Slot), va_P D vwCl wl H → va_D A wl → va_S A s.heap H locs → Same w wl k 2 → Blk wl k (cBytes D α k cap ((L_X1_addName_3 cap f len x n).1) ((L_X1_addName_3 cap f len x n).2)) → lv_has ls 4 [(2, .int (sh5 (n))), (0, .ref (α (k))), (1, .int x)] → W pg l en ({ frames := 1, cells := 0, slots := 0, locals := 21 } : Room) s mi ar below me co H locs 0 0 (MQ below (gQ D A none (fun w1 => Blk w1 k (cBytes D α k cap ((f_X1_addName cap f len x).1) ((f_X1_addName cap f len x).2)) ∧ Same w w1 k 2)) ar s 0 0 A) (F0 mi 3 ls []) := by
    intro j
    induction j with
    | zero =>
      intro n hn wl H locs ls hP hD hS hF hB0 hl
      have hn : 6 = n := hn.symm
      subst hn
      refine lv_iload_n S.1 S.2.1 dX1_addName_3 rfl (lv_at hl 0 rfl) ?_
      refine lv_if_lt (tgt := 34) S.1 S.2.1 dX1_addName_4 (by decide) (fun (c1 : (sh5 (6)) < 0) => ?_) (fun (c1 : ¬ (sh5 (6)) < 0) => absurd c1 (sh5_out))
      have hf : (f_X1_addName cap f len x) = ((L_X1_addName_3 cap f len x 6).1, (L_X1_addName_3 cap f len x 6).2) := rfl
      exact g_vret S hr hlk hP hD hS (rfl) (⟨by rw [hf]; dsimp only; exact hB0, hF⟩) dX1_addName_34
    | succ j ih =>
      intro n hn wl H locs ls hP hD hS hF hB0 hl
      refine lv_iload_n S.1 S.2.1 dX1_addName_3 rfl (lv_at hl 0 rfl) ?_
      refine lv_if_lt (tgt := 34) S.1 S.2.1 dX1_addName_4 (by decide) (fun (c2 : (sh5 (n)) < 0) => absurd c2 (sh5_in hn)) (fun (c2 : ¬ (sh5 (n)) < 0) => ?_)
      refine lv_iload_n S.1 S.2.1 dX1_addName_7 rfl (lv_at hl 2 rfl) ?_
      refine lv_iload_n S.1 S.2.1 dX1_addName_8 rfl (lv_at hl 0 rfl) ?_
      refine lv_ishr S.1 S.2.1 dX1_addName_9 ?_
      refine lv_bipush (v := 31) S.1 S.2.1 dX1_addName_10 (by decide) ?_
      refine lv_iand S.1 S.2.1 dX1_addName_12 ?_
      refine lv_istore_n (lv' := [(3, .int ((x >>> ((sh5 (n)) &&& 31)) &&& 31)), (2, .int (sh5 (n))), (0, .ref (α (k))), (1, .int x)]) S.1 S.2.1 dX1_addName_13 rfl hl (by decide) rfl (fun ls hl => ?_)
      refine lv_iload_n S.1 S.2.1 dX1_addName_14 rfl (lv_at hl 0 rfl) ?_
      have jn15 : ∀ (wl : va_W) (H : Heap) (locs : List Loc) (ls : Array Slot), va_P D vwCl wl H → va_D A wl → va_S A s.heap H locs → Same w wl k 2 → Blk wl k (cBytes D α k cap ((J_X1_addName_15 cap f len x n (L_X1_addName_3 cap f len x n)).1) ((J_X1_addName_15 cap f len x n (L_X1_addName_3 cap f len x n)).2)) → lv_has ls 4 [(3, .int ((x >>> ((sh5 (n)) &&& 31)) &&& 31)), (2, .int (sh5 (n))), (0, .ref (α (k))), (1, .int x)] → W pg l en ({ frames := 1, cells := 0, slots := 0, locals := 21 } : Room) s mi ar below me co H locs 0 0 (MQ below (gQ D A none (fun w1 => Blk w1 k (cBytes D α k cap ((f_X1_addName cap f len x).1) ((f_X1_addName cap f len x).2)) ∧ Same w w1 k 2)) ar s 0 0 A) (F0 mi 28 ls []) := by
        intro wl H locs ls hP hD hS hF hB0 hl
        refine lv_iinc (v := (sh5 (n + 1))) (lv' := [(2, .int (sh5 (n + 1))), (3, .int ((x >>> ((sh5 (n)) &&& 31)) &&& 31)), (0, .ref (α (k))), (1, .int x)]) S.1 S.2.1 dX1_addName_28 hl (k := 1) rfl (sh5_s n) (by decide) rfl (fun ls hl => ?_)
        refine lv_goto (tgt := 3) S.1 S.2.1 dX1_addName_31 (by decide) ?_
        have hL : (L_X1_addName_3 cap f len x (n + 1)) = ((J_X1_addName_15 cap f len x n (L_X1_addName_3 cap f len x n)).1, (J_X1_addName_15 cap f len x n (L_X1_addName_3 cap f len x n)).2) := (iter_s _ _ _).trans (show (G_X1_addName_3 cap f len x n (L_X1_addName_3 cap f len x n)) = ((J_X1_addName_15 cap f len x n (L_X1_addName_3 cap f len x n)).1, (J_X1_addName_15 cap f len x n (L_X1_addName_3 cap f len x n)).2) from rfl)
        refine ih (n + 1) (lp_n hn) _ _ _ _ hP hD hS hF ?_ ?_
        · rw [hL]; (try dsimp only); exact hB0
        · exact lv_sub hl [0, 2, 3] rfl
      refine lv_if_eq (tgt := 28) S.1 S.2.1 dX1_addName_15 (by decide) (fun (c3 : ((x >>> ((sh5 (n)) &&& 31)) &&& 31) = 0) => ?_) (fun (c3 : ¬ ((x >>> ((sh5 (n)) &&& 31)) &&& 31) = 0) => ?_)
      · skip
        have hJ : (J_X1_addName_15 cap f len x n (L_X1_addName_3 cap f len x n)) = ((L_X1_addName_3 cap f len x n).1, (L_X1_addName_3 cap f len x n).2) := if_pos c3
        have qj := jn15
        rw [hJ] at qj
        (try dsimp only at qj)
        exact qj _ _ _ _ hP hD hS hF hB0 (lv_sub hl [0, 1, 2, 3] rfl)
      · refine lv_aload_n S.1 S.2.1 dX1_addName_18 rfl (lv_at hl 2 rfl) ?_
        refine lv_bipush (v := 97) S.1 S.2.1 dX1_addName_19 (by decide) ?_
        refine lv_iload_n S.1 S.2.1 dX1_addName_21 rfl (lv_at hl 0 rfl) ?_
        refine lv_iadd S.1 S.2.1 dX1_addName_22 ?_
        refine lv_iconst (v := 1) S.1 S.2.1 dX1_addName_23 (by decide) ?_
        refine lv_isub S.1 S.2.1 dX1_addName_24 ?_
        have hNm : (f_X1_add cap ((L_X1_addName_3 cap f len x n).1) ((L_X1_addName_3 cap f len x n).2) ((97 + ((x >>> ((sh5 (n)) &&& 31)) &&& 31)) - 1)) = (S_X1_addName_25 cap f len x n (L_X1_addName_3 cap f len x n)) := rfl
        have hCon := (c_X1_add l D A wl α (k) cap ((L_X1_addName_3 cap f len x n).1) ((L_X1_addName_3 cap f len x n).2) ((97 + ((x >>> ((sh5 (n)) &&& 31)) &&& 31)) - 1) hB0 (hy0))
        rw [hNm] at hCon
        refine g_aft0 (st1 := []) (g_V (As := [.int ((97 + ((x >>> ((sh5 (n)) &&& 31)) &&& 31)) - 1)]) (rest := []) S mi_X1_add qw596 hCon hK hP hD hE hS (hB0 0 _ rfl) rfl rfl rfl hl.1 (Nat.le_of_ble_eq_true rfl) rfl rfl ⟨(Nat.le_of_ble_eq_true rfl), (Nat.le_of_ble_eq_true rfl)⟩ ⟨(Nat.le_of_ble_eq_true rfl), (Nat.le_of_ble_eq_true rfl)⟩ dX1_addName_25) hS rfl (fun w1 H locs hQ hP hD hS => ?_)
        have hF := hF.trans hQ.2
        have hB0 : Blk w1 k (cBytes D α k cap ((S_X1_addName_25 cap f len x n (L_X1_addName_3 cap f len x n)).1) ((S_X1_addName_25 cap f len x n (L_X1_addName_3 cap f len x n)).2)) := hQ.1
        have hJ : (J_X1_addName_15 cap f len x n (L_X1_addName_3 cap f len x n)) = ((S_X1_addName_25 cap f len x n (L_X1_addName_3 cap f len x n)).1, (S_X1_addName_25 cap f len x n (L_X1_addName_3 cap f len x n)).2) := if_neg c3
        have qj := jn15
        rw [hJ] at qj
        (try dsimp only at qj)
        exact qj _ _ _ _ hP hD hS hF hB0 (lv_sub hl [0, 1, 2, 3] rfl)
  have hL0 : (L_X1_addName_3 cap f len x 0) = (f, len) := iter_z _ _
  exact lp3 6 0 (Nat.zero_add 6) _ _ _ _ hP hD hS hF (by rw [hL0]; exact hB0) (lv_sub hl [0, 1, 2] rfl)
