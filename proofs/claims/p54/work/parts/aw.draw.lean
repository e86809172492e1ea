/-! A DRAW; the setup text as it is built -/
theorem drw_at (x : Int32) : ∃ d, d < 32768 ∧ drw x = nI d := by
  refine ⟨(x >>> ((16 : Int32) &&& 31)).toBitVec.toNat &&& 32767, Nat.lt_of_le_of_lt Nat.and_le_right (by decide), ?_⟩
  unfold drw
  generalize x >>> ((16 : Int32) &&& 31) = y
  have h : y.toBitVec.toNat &&& 32767 < 32768 := Nat.lt_of_le_of_lt Nat.and_le_right (by decide)
  apply Int32.toBitVec_inj.mp
  rw [Int32.toBitVec_and]
  apply BitVec.eq_of_toNat_eq
  rw [BitVec.toNat_and]
  show y.toBitVec.toNat &&& 32767 = (y.toBitVec.toNat &&& 32767) % 2 ^ 32
  rw [Nat.mod_eq_of_lt (by omega)]
set_option maxHeartbeats 4000000 in
set_option maxRecDepth 100000 in
theorem l_drawS (l : Launch) (D : va_G) (A : Nat → Prop) (w : va_W) {k qa : Nat} {x : Int32} (hQ : QW D k w qa x) : Met l yL_draw (ws_ yL_draw cL_draw 1 (Option.some Jvm.ClassFile.FieldType.int)) ({ frames := 0, cells := 0, slots := 0, locals := 0 } : Room) (gPre D A [.ref qa] w) (gQ D A (some (.int (drw (dnx x)))) (fun w1 => QW D k w1 qa (dnx x) ∧ Same w w1 k 1)) 0 0 A := by
  refine g_met [(0, .ref qa)] (by decide +kernel) (Nat.le_of_ble_eq_true rfl) rfl (fun pg en s mi ar below me co ls S hK hP hD hE hS hr hlk hnm hl => ?_)
  obtain ⟨f, h1, h2⟩ := hQ
  refine lv_aload_n S.1 S.2.1 dL_draw_0 rfl (lv_at hl 0 rfl) ?_
  refine lv_bipush (v := 7) S.1 S.2.1 dL_draw_1 (by decide) ?_
  refine lv_aload_n S.1 S.2.1 dL_draw_3 rfl (lv_at hl 0 rfl) ?_
  refine lv_bipush (v := 7) S.1 S.2.1 dL_draw_4 (by decide) ?_
  refine g_iald (q0 := k) S hK hP h1 (vin_d (by decide)) dL_draw_6 ?_
  rw [show f (Int32.toNatClampNeg 7) = x from h2]
  refine lv_ldc (v := 1103515245) S.1 S.2.1 S.2.2.2.1 (S.2.2.2.2 _ qw975) dL_draw_7 ?_
  refine lv_imul S.1 S.2.1 dL_draw_9 ?_
  refine lv_sipush (v := 12345) S.1 S.2.1 dL_draw_10 (by decide) ?_
  refine lv_iadd S.1 S.2.1 dL_draw_13 ?_
  refine g_iast (q0 := k) S hK hP hD hS h1 (vin_d (by decide)) dL_draw_14 (fun w1 H locs hw hP hD hS => ?_)
  have hq : w1[k]? = some (qa, .inl (D.1 100, 8, .inl (upd f 7 (dnx x)))) := by rw [hw]; exact List.getElem?_set_self (List.getElem?_eq_some_iff.mp h1).1
  refine lv_aload_n S.1 S.2.1 dL_draw_15 rfl (lv_at hl 0 rfl) ?_
  refine lv_bipush (v := 7) S.1 S.2.1 dL_draw_16 (by decide) ?_
  refine g_iald (q0 := k) S hK hP hq (vin_d (by decide)) dL_draw_18 ?_
  rw [show upd f 7 (dnx x) (Int32.toNatClampNeg 7) = dnx x from if_pos rfl]
  refine lv_bipush (v := 16) S.1 S.2.1 dL_draw_19 (by decide) ?_
  refine lv_ishr S.1 S.2.1 dL_draw_21 ?_
  refine lv_sipush (v := 32767) S.1 S.2.1 dL_draw_22 (by decide) ?_
  refine lv_iand S.1 S.2.1 dL_draw_25 ?_
  exact g_iret S hr hlk hP hD hS rfl ⟨⟨_, hq, if_pos rfl⟩, ⟨by rw [hw]; exact List.length_set .., fun j hj => by rw [hw]; exact List.getElem?_set_ne (by omega)⟩⟩ dL_draw_26
theorem w_sameK {u x W1 : va_W} {k : Nat} (h : Same (u ++ x) W1 k 1) (hk : k < u.length) : ∃ u1, W1 = u1 ++ x ∧ Same u u1 k 1 := by
  obtain ⟨hl, hs⟩ := h
  rw [List.length_append] at hl
  have e : (W1.take u.length).length = u.length := by rw [List.length_take]; omega
  refine ⟨W1.take u.length, ?_, e, fun j hj => ?_⟩
  · refine List.ext_getElem? fun i => ?_
    rcases Nat.lt_or_ge i u.length with hi | hi
    · rw [List.getElem?_append_left (by rw [e]; exact hi), List.getElem?_take_of_lt hi]
    · rw [List.getElem?_append_right (by rw [e]; exact hi), e, hs i (by omega), List.getElem?_append_right hi]
  · rcases Nat.lt_or_ge j u.length with hi | hi
    · rw [List.getElem?_take_of_lt hi, hs j hj, List.getElem?_append_left hi]
    · rw [List.getElem?_eq_none hi, List.getElem?_eq_none (by rw [e]; exact hi)]
theorem QW.app {D : va_G} {k qa : Nat} {u x : va_W} {y : Int32} (h : QW D k u qa y) (hk : k < u.length) : QW D k (u ++ x) qa y := by
  obtain ⟨f, h1, h2⟩ := h
  exact ⟨f, by rw [List.getElem?_append_left hk]; exact h1, h2⟩
theorem QW.left {D : va_G} {k qa : Nat} {u x : va_W} {y : Int32} (h : QW D k (u ++ x) qa y) (hk : k < u.length) : QW D k u qa y := by
  obtain ⟨f, h1, h2⟩ := h
  exact ⟨f, by rw [List.getElem?_append_left hk] at h1; exact h1, h2⟩
theorem decl_n : ∀ m, m ≤ 100 → decL (nI m) = (numL (nI m)).map nI := by decide +kernel
theorem lsN27 : strByt.getD 27 [] = ([98, 111, 97, 116, 32] : List Nat).map nI := by decide +kernel
theorem lsN28 : strByt.getD 28 [] = ([112, 101, 114, 115, 111, 110, 32] : List Nat).map nI := by decide +kernel
theorem lsN29 : strByt.getD 29 [] = ([32, 111, 102, 32] : List Nat).map nI := by decide +kernel
theorem lsN30 : strByt.getD 30 [] = ([115, 101, 97, 115, 111, 110, 32] : List Nat).map nI := by decide +kernel
theorem lsN31 : strByt.getD 31 [] = ([32, 115, 104, 97, 114, 101, 115, 32] : List Nat).map nI := by decide +kernel
theorem lsN32 : strByt.getD 32 [] = ([32, 108, 101, 115, 115, 32] : List Nat).map nI := by decide +kernel
theorem lsN33 : strByt.getD 33 [] = ([32, 108, 101, 97, 115, 116, 32] : List Nat).map nI := by decide +kernel
theorem lsN34 : strByt.getD 34 [] = ([32, 99, 97, 114, 114, 121, 32] : List Nat).map nI := by decide +kernel
theorem lsN35 : strByt.getD 35 [] = ([32, 97, 112, 112, 101, 97, 108, 32] : List Nat).map nI := by decide +kernel
theorem lsN36 : strByt.getD 36 [] = ([32, 114, 101, 99, 111, 117, 110, 116, 115, 32] : List Nat).map nI := by decide +kernel
theorem lsN37 : strByt.getD 37 [] = ([59] : List Nat).map nI := by decide +kernel
theorem lit_asc27 : ∀ x ∈ strByt.getD 27 [], asc x := show ∀ x ∈ strByt.getD 27 [], (0 : Int32) ≤ x ∧ x < 128 by decide
theorem lit_asc28 : ∀ x ∈ strByt.getD 28 [], asc x := show ∀ x ∈ strByt.getD 28 [], (0 : Int32) ≤ x ∧ x < 128 by decide
theorem lit_asc29 : ∀ x ∈ strByt.getD 29 [], asc x := show ∀ x ∈ strByt.getD 29 [], (0 : Int32) ≤ x ∧ x < 128 by decide
theorem lit_asc30 : ∀ x ∈ strByt.getD 30 [], asc x := show ∀ x ∈ strByt.getD 30 [], (0 : Int32) ≤ x ∧ x < 128 by decide
theorem lit_asc31 : ∀ x ∈ strByt.getD 31 [], asc x := show ∀ x ∈ strByt.getD 31 [], (0 : Int32) ≤ x ∧ x < 128 by decide
theorem lit_asc32 : ∀ x ∈ strByt.getD 32 [], asc x := show ∀ x ∈ strByt.getD 32 [], (0 : Int32) ≤ x ∧ x < 128 by decide
theorem lit_asc33 : ∀ x ∈ strByt.getD 33 [], asc x := show ∀ x ∈ strByt.getD 33 [], (0 : Int32) ≤ x ∧ x < 128 by decide
theorem lit_asc34 : ∀ x ∈ strByt.getD 34 [], asc x := show ∀ x ∈ strByt.getD 34 [], (0 : Int32) ≤ x ∧ x < 128 by decide
theorem lit_asc35 : ∀ x ∈ strByt.getD 35 [], asc x := show ∀ x ∈ strByt.getD 35 [], (0 : Int32) ≤ x ∧ x < 128 by decide
theorem lit_asc36 : ∀ x ∈ strByt.getD 36 [], asc x := show ∀ x ∈ strByt.getD 36 [], (0 : Int32) ≤ x ∧ x < 128 by decide
theorem lit_asc37 : ∀ x ∈ strByt.getD 37 [], asc x := show ∀ x ∈ strByt.getD 37 [], (0 : Int32) ≤ x ∧ x < 128 by decide
theorem nls_eq (w : Nat → List Nat) : (((((((((((((((((((([115, 101, 97, 115, 111, 110, 32] ++ w 0) ++ [32, 115, 104, 97, 114, 101, 115, 32]) ++ w 1) ++ [32]) ++ w 2) ++ [32]) ++ w 3) ++ [32]) ++ w 4) ++ [32, 108, 101, 115, 115, 32]) ++ w 5) ++ [32, 108, 101, 97, 115, 116, 32]) ++ w 6) ++ [32, 99, 97, 114, 114, 121, 32]) ++ w 7) ++ [32, 97, 112, 112, 101, 97, 108, 32]) ++ w 8) ++ [32, 114, 101, 99, 111, 117, 110, 116, 115, 32]) ++ w 9) ++ [59]) = nlL w [] := by
  rw [← NLw_eq w [], List.append_nil]
  simp only [List.append_assoc, List.cons_append, List.nil_append]
