/-! THE LAW: draw, acts -/
def dnx (x : Int32) : Int32 := x * 1103515245 + 12345
def drw (x : Int32) : Int32 := (x >>> ((16 : Int32) &&& 31)) &&& 32767
/-- the array of random numbers at place k of the world; its last number -/
def QW (D : va_G) (k : Nat) (w : va_W) (qa : Nat) (x : Int32) : Prop := ∃ f : Nat → Int32, w[k]? = some (qa, .inl (D.1 100, 8, .inl f)) ∧ f 7 = x
theorem QW.same {D : va_G} {k qa : Nat} {w w1 : va_W} {x : Int32} (h : QW D k w qa x) {n : Nat} (hs : Same w w1 0 n) (hk : n ≤ k) : QW D k w1 qa x := by
  obtain ⟨f, h1, h2⟩ := h
  exact ⟨f, (hs.2 k (.inr (by omega))).trans h1, h2⟩
set_option maxHeartbeats 4000000 in
set_option maxRecDepth 100000 in
theorem l_draw (l : Launch) (D : va_G) (A : Nat → Prop) (w : va_W) {k qa : Nat} {x : Int32} (hk : 234 ≤ k) (hQ : QW D k w qa x) : Met l yL_draw (ws_ yL_draw cL_draw 1 (Option.some Jvm.ClassFile.FieldType.int)) ({ frames := 0, cells := 0, slots := 0, locals := 0 } : Room) (gPre D A [.ref qa] w) (gQ D A (some (.int (drw (dnx x)))) (fun w1 => QW D k w1 qa (dnx x) ∧ ∀ j : Nat, j < 234 → w1[j]? = w[j]?)) 0 0 A := by
  refine g_met [(0, .ref qa)] (by decide +kernel) (Nat.le_of_ble_eq_true rfl) rfl (fun pg en s mi ar below me co ls S hK hP hD hE hS hr hlk hnm hl => ?_)
  obtain ⟨f, h1, h2⟩ := hQ
  refine lv_aload_n S.1 S.2.1 dL_draw_0 rfl (lv_at hl 0 rfl) ?_
  refine lv_bipush (v := 7) S.1 S.2.1 dL_draw_1 (by decide) ?_
  refine lv_aload_n S.1 S.2.1 dL_draw_3 rfl (lv_at hl 0 rfl) ?_
  refine lv_bipush (v := 7) S.1 S.2.1 dL_draw_4 (by decide) ?_
  refine g_iald (q0 := k) S hK hP h1 (vin_d (by decide)) dL_draw_6 ?_
  rw [show f (Int32.toNatClampNeg 7) = x from h2]
  refine lv_ldc (v := 1103515245) S.1 S.2.1 S.2.2.2.1 (S.2.2.2.2 _ qw975) dL_draw_7 ?_
  refine lv_imul S.1 S.2.1 dL_draw_9 ?_
  refine lv_sipush (v := 12345) S.1 S.2.1 dL_draw_10 (by decide) ?_
  refine lv_iadd S.1 S.2.1 dL_draw_13 ?_
  refine g_iast (q0 := k) S hK hP hD hS h1 (vin_d (by decide)) dL_draw_14 (fun w1 H locs hw hP hD hS => ?_)
  have hq : w1[k]? = some (qa, .inl (D.1 100, 8, .inl (upd f 7 (dnx x)))) := by rw [hw]; exact List.getElem?_set_self (List.getElem?_eq_some_iff.mp h1).1
  refine lv_aload_n S.1 S.2.1 dL_draw_15 rfl (lv_at hl 0 rfl) ?_
  refine lv_bipush (v := 7) S.1 S.2.1 dL_draw_16 (by decide) ?_
  refine g_iald (q0 := k) S hK hP hq (vin_d (by decide)) dL_draw_18 ?_
  rw [show upd f 7 (dnx x) (Int32.toNatClampNeg 7) = dnx x from if_pos rfl]
  refine lv_bipush (v := 16) S.1 S.2.1 dL_draw_19 (by decide) ?_
  refine lv_ishr S.1 S.2.1 dL_draw_21 ?_
  refine lv_sipush (v := 32767) S.1 S.2.1 dL_draw_22 (by decide) ?_
  refine lv_iand S.1 S.2.1 dL_draw_25 ?_
  exact g_iret S hr hlk hP hD hS rfl ⟨⟨_, hq, if_pos rfl⟩, fun j hj => by rw [hw]; exact List.getElem?_set_ne (by omega)⟩ dL_draw_26
/-- an act: the state behind it, its answer -/
def ACT (v u : VT) (r : Int32) : Prop := (∃ x : Int32, ∃ y : Int32, u = n_sail v x y ∧ r = a_sail v x y) ∨ (∃ x : Int32, ∃ y : Int32, u = n_delay v x y ∧ r = a_delay v x y) ∨ (∃ x : Int32, u = n_comeHome v x ∧ r = a_comeHome v x) ∨ (∃ x : Int32, ∃ y : Int32, u = n_join v x y ∧ r = a_join v x y) ∨ (∃ x : Int32, u = n_open v x ∧ r = a_open v x) ∨ (∃ x : Int32, ∃ y : Int32, ∃ z : Int32, u = n_give v x y z ∧ r = a_give v x y z) ∨ (∃ x : Int32, u = n_takeBack v x ∧ r = a_takeBack v x) ∨ (∃ x : Int32, ∃ y : Int32, ∃ z : Int32, u = n_lay v x y z ∧ r = a_lay v x y z) ∨ (∃ blB blC : Nat → Int32, ∃ x : Int32, ∃ y : Int32, u = n_contest v blB blC x y ∧ r = a_contest v x y) ∨ (∃ blB blC : Nat → Int32, u = n_close v blB blC ∧ r = a_close v) ∨ (∃ blB blC : Nat → Int32, u = n_recount v blB blC ∧ r = a_recount v) ∨ (∃ x : Int32, u = n_pass v x ∧ r = a_pass v x)
set_option maxHeartbeats 4000000 in
set_option maxRecDepth 100000 in
theorem l_acts (l : Launch) (D : va_G) (A : Nat → Prop) (w : va_W) (α : Nat → Nat) {N P B Q : Nat} {v : VT} (hR : RA N P B Q v) (hN : N ≤ 600) (h2 : ¬ a_value v 2 = 0) (hB : OB D α w v) {qa : Nat} {x : Int32} (hQ : QW D 234 w qa x) : Met l yL_acts (ws_ yL_acts cL_acts 6 (Option.some Jvm.ClassFile.FieldType.int)) ({ frames := 8, cells := 0, slots := 0, locals := 190 } : Room) (gPre D A [.ref (α 0), .ref qa] w) (gG A (fun V H H1 => ∃ (r : Int32) (v1 : VT) (w1 : va_W) (x1 : Int32), V = some (.int r) ∧ ACT v v1 r ∧ OB D α w1 v1 ∧ QW D 234 w1 qa x1 ∧ va_P D vwCl w1 H1 ∧ va_D A w1)) 0 0 A := by
  refine g_met [(0, .ref (α 0)), (1, .ref qa)] (by decide +kernel) (Nat.le_of_ble_eq_true rfl) rfl (fun pg en s mi ar below me co ls S hK hP hD hE hS hr hlk hnm hl => ?_)
  refine lv_aload_n S.1 S.2.1 dL_acts_0 rfl (lv_at hl 1 rfl) ?_
  refine x_aftQ (st1 := [.int (drw (dnx x))]) (x_St0 (As := [.ref qa]) (rest := []) S ms_L_draw qw972 (l_draw l D A w (Nat.le_refl 234) hQ) hK hP hD (hE.kept hS.2.1) rfl rfl hl.1 (Nat.le_of_ble_eq_true rfl) rfl rfl ⟨(Nat.le_of_ble_eq_true rfl), (Nat.le_of_ble_eq_true rfl)⟩ ⟨(Nat.le_of_ble_eq_true rfl), (Nat.le_of_ble_eq_true rfl)⟩ dL_acts_1) hS (fun _ h => h) rfl (fun w1 H locs hq hP hD hz hk hS => ?_)
  obtain ⟨hQ, hsm⟩ := hq
  have hB : OB D α w1 v := hB.agree hsm
  generalize drw (dnx x) = y2
  generalize dnx x = x2 at hQ
  clear hz hk hsm
  refine lv_aload_n S.1 S.2.1 dL_acts_4 rfl (lv_at hl 0 rfl) ?_
  refine lv_iconst (v := 2) S.1 S.2.1 dL_acts_5 (by decide) ?_
  refine x_aftQ (st1 := [.int (a_value v (2 : Int32)), .int y2]) (x_V0 (As := [.int 2]) (rest := [.int y2]) S mi_X11_value qw725 (k_value l D A w1 α hR hN (2 : Int32) hB) hK hP hD (hE.kept hS.2.1) (hB.recv hK hP) rfl rfl hl.1 (Nat.le_of_ble_eq_true rfl) rfl rfl ⟨(Nat.le_of_ble_eq_true rfl), (Nat.le_of_ble_eq_true rfl)⟩ ⟨(Nat.le_of_ble_eq_true rfl), (Nat.le_of_ble_eq_true rfl)⟩ dL_acts_6) hS (fun _ h => h) rfl (fun w3 H locs hq hP hD hz hk hS => ?_)
  obtain ⟨hB, hsm⟩ := hq
  have hQ := hQ.same hsm (Nat.le_refl 234)
  clear hz hk
  refine lv_irem S.1 S.2.1 dL_acts_9 (h2) ?_
  generalize y2 - y2 / (a_value v (2 : Int32)) * (a_value v (2 : Int32)) = m4
  refine lv_istore_n (lv' := [(2, .int m4), (0, .ref (α 0)), (1, .ref qa)]) S.1 S.2.1 dL_acts_10 rfl hl (by decide) rfl (fun ls hl => ?_)
  refine lv_aload_n S.1 S.2.1 dL_acts_11 rfl (lv_at hl 2 rfl) ?_
  refine x_aftQ (st1 := [.int (drw (dnx x2))]) (x_St0 (As := [.ref qa]) (rest := []) S ms_L_draw qw972 (l_draw l D A w3 (Nat.le_refl 234) hQ) hK hP hD (hE.kept hS.2.1) rfl rfl hl.1 (Nat.le_of_ble_eq_true rfl) rfl rfl ⟨(Nat.le_of_ble_eq_true rfl), (Nat.le_of_ble_eq_true rfl)⟩ ⟨(Nat.le_of_ble_eq_true rfl), (Nat.le_of_ble_eq_true rfl)⟩ dL_acts_12) hS (fun _ h => h) rfl (fun w5 H locs hq hP hD hz hk hS => ?_)
  obtain ⟨hQ, hsm⟩ := hq
  have hB : OB D α w5 v := hB.agree hsm
  generalize drw (dnx x2) = y6
  generalize dnx x2 = x6 at hQ
  clear hz hk hsm
  refine lv_aload_n S.1 S.2.1 dL_acts_15 rfl (lv_at hl 1 rfl) ?_
  refine lv_iconst (v := 2) S.1 S.2.1 dL_acts_16 (by decide) ?_
  refine x_aftQ (st1 := [.int (a_value v (2 : Int32)), .int y6]) (x_V0 (As := [.int 2]) (rest := [.int y6]) S mi_X11_value qw725 (k_value l D A w5 α hR hN (2 : Int32) hB) hK hP hD (hE.kept hS.2.1) (hB.recv hK hP) rfl rfl hl.1 (Nat.le_of_ble_eq_true rfl) rfl rfl ⟨(Nat.le_of_ble_eq_true rfl), (Nat.le_of_ble_eq_true rfl)⟩ ⟨(Nat.le_of_ble_eq_true rfl), (Nat.le_of_ble_eq_true rfl)⟩ dL_acts_17) hS (fun _ h => h) rfl (fun w7 H locs hq hP hD hz hk hS => ?_)
  obtain ⟨hB, hsm⟩ := hq
  have hQ := hQ.same hsm (Nat.le_refl 234)
  clear hz hk
  refine lv_irem S.1 S.2.1 dL_acts_20 (h2) ?_
  generalize y6 - y6 / (a_value v (2 : Int32)) * (a_value v (2 : Int32)) = m8
  refine lv_istore_n (lv' := [(3, .int m8), (2, .int m4), (0, .ref (α 0)), (1, .ref qa)]) S.1 S.2.1 dL_acts_21 rfl hl (by decide) rfl (fun ls hl => ?_)
  refine lv_aload_n S.1 S.2.1 dL_acts_22 rfl (lv_at hl 3 rfl) ?_
  refine x_aftQ (st1 := [.int (drw (dnx x6))]) (x_St0 (As := [.ref qa]) (rest := []) S ms_L_draw qw972 (l_draw l D A w7 (Nat.le_refl 234) hQ) hK hP hD (hE.kept hS.2.1) rfl rfl hl.1 (Nat.le_of_ble_eq_true rfl) rfl rfl ⟨(Nat.le_of_ble_eq_true rfl), (Nat.le_of_ble_eq_true rfl)⟩ ⟨(Nat.le_of_ble_eq_true rfl), (Nat.le_of_ble_eq_true rfl)⟩ dL_acts_23) hS (fun _ h => h) rfl (fun w9 H locs hq hP hD hz hk hS => ?_)
  obtain ⟨hQ, hsm⟩ := hq
  have hB : OB D α w9 v := hB.agree hsm
  generalize drw (dnx x6) = y10
  generalize dnx x6 = x10 at hQ
  clear hz hk hsm
  refine lv_iconst (v := 3) S.1 S.2.1 dL_acts_26 (by decide) ?_
  refine lv_irem S.1 S.2.1 dL_acts_27 (by decide) ?_
  generalize y10 - y10 / (3 : Int32) * (3 : Int32) = m11
  refine lv_istore (lv' := [(4, .int m11), (3, .int m8), (2, .int m4), (0, .ref (α 0)), (1, .ref qa)]) S.1 S.2.1 dL_acts_28 hl (by decide) rfl (fun ls hl => ?_)
  refine lv_aload_n S.1 S.2.1 dL_acts_30 rfl (lv_at hl 4 rfl) ?_
  refine x_aftQ (st1 := [.int (drw (dnx x10))]) (x_St0 (As := [.ref qa]) (rest := []) S ms_L_draw qw972 (l_draw l D A w9 (Nat.le_refl 234) hQ) hK hP hD (hE.kept hS.2.1) rfl rfl hl.1 (Nat.le_of_ble_eq_true rfl) rfl rfl ⟨(Nat.le_of_ble_eq_true rfl), (Nat.le_of_ble_eq_true rfl)⟩ ⟨(Nat.le_of_ble_eq_true rfl), (Nat.le_of_ble_eq_true rfl)⟩ dL_acts_31) hS (fun _ h => h) rfl (fun w12 H locs hq hP hD hz hk hS => ?_)
  obtain ⟨hQ, hsm⟩ := hq
  have hB : OB D α w12 v := hB.agree hsm
  generalize drw (dnx x10) = y13
  generalize dnx x10 = x13 at hQ
  clear hz hk hsm
  refine lv_iconst (v := 3) S.1 S.2.1 dL_acts_34 (by decide) ?_
  refine lv_irem S.1 S.2.1 dL_acts_35 (by decide) ?_
  generalize y13 - y13 / (3 : Int32) * (3 : Int32) = m14
  refine lv_istore (lv' := [(5, .int m14), (4, .int m11), (3, .int m8), (2, .int m4), (0, .ref (α 0)), (1, .ref qa)]) S.1 S.2.1 dL_acts_36 hl (by decide) rfl (fun ls hl => ?_)
  refine lv_aload_n S.1 S.2.1 dL_acts_38 rfl (lv_at hl 5 rfl) ?_
  refine x_aftQ (st1 := [.int (drw (dnx x13))]) (x_St0 (As := [.ref qa]) (rest := []) S ms_L_draw qw972 (l_draw l D A w12 (Nat.le_refl 234) hQ) hK hP hD (hE.kept hS.2.1) rfl rfl hl.1 (Nat.le_of_ble_eq_true rfl) rfl rfl ⟨(Nat.le_of_ble_eq_true rfl), (Nat.le_of_ble_eq_true rfl)⟩ ⟨(Nat.le_of_ble_eq_true rfl), (Nat.le_of_ble_eq_true rfl)⟩ dL_acts_39) hS (fun _ h => h) rfl (fun w15 H locs hq hP hD hz hk hS => ?_)
  obtain ⟨hQ, hsm⟩ := hq
  have hB : OB D α w15 v := hB.agree hsm
  generalize drw (dnx x13) = y16
  generalize dnx x13 = x16 at hQ
  clear hz hk hsm
  refine lv_bipush (v := 20) S.1 S.2.1 dL_acts_42 (by decide) ?_
  refine lv_irem S.1 S.2.1 dL_acts_44 (by decide) ?_
  generalize y16 - y16 / (20 : Int32) * (20 : Int32) = m17
  by_cases e0 : m17 = 0
  · refine lv_tableIn (tgt := 132) S.1 S.2.1 dL_acts_45 (by rw [e0]; decide) (by rw [e0]; decide) (by rw [e0]; rfl) (by decide) ?_
    refine lv_aload_n S.1 S.2.1 dL_acts_132 rfl (lv_at hl 4 rfl) ?_
    refine lv_iload S.1 S.2.1 dL_acts_133 (lv_at hl 1 rfl) ?_
    refine lv_iconst (v := 1) S.1 S.2.1 dL_acts_135 (by decide) ?_
    refine lv_aload_n S.1 S.2.1 dL_acts_136 rfl (lv_at hl 5 rfl) ?_
    refine x_aftQ (st1 := [.int (drw (dnx x16)), .int 1, .int m11, .ref (α 0)]) (x_St0 (As := [.ref qa]) (rest := [.int 1, .int m11, .ref (α 0)]) S ms_L_draw qw972 (l_draw l D A w15 (Nat.le_refl 234) hQ) hK hP hD (hE.kept hS.2.1) rfl rfl hl.1 (Nat.le_of_ble_eq_true rfl) rfl rfl ⟨(Nat.le_of_ble_eq_true rfl), (Nat.le_of_ble_eq_true rfl)⟩ ⟨(Nat.le_of_ble_eq_true rfl), (Nat.le_of_ble_eq_true rfl)⟩ dL_acts_137) hS (fun _ h => h) rfl (fun w18 H locs hq hP hD hz hk hS => ?_)
    obtain ⟨hQ, hsm⟩ := hq
    have hB : OB D α w18 v := hB.agree hsm
    generalize drw (dnx x16) = y19
    generalize dnx x16 = x19 at hQ
    clear hz hk hsm
    refine lv_bipush (v := 9) S.1 S.2.1 dL_acts_140 (by decide) ?_
    refine lv_irem S.1 S.2.1 dL_acts_142 (by decide) ?_
    generalize y19 - y19 / (9 : Int32) * (9 : Int32) = m20
    refine lv_iadd S.1 S.2.1 dL_acts_143 ?_
    refine x_aftQ (st1 := [.int (a_sail v m11 ((1 : Int32) + m20))]) (x_V0 (As := [.int m11, .int ((1 : Int32) + m20)]) (rest := []) S mi_X11_sail qw1091 (k_sail l D A w18 α hR hN m11 ((1 : Int32) + m20) hB) hK hP hD (hE.kept hS.2.1) (hB.recv hK hP) rfl rfl hl.1 (Nat.le_of_ble_eq_true rfl) rfl rfl ⟨(Nat.le_of_ble_eq_true rfl), (Nat.le_of_ble_eq_true rfl)⟩ ⟨(Nat.le_of_ble_eq_true rfl), (Nat.le_of_ble_eq_true rfl)⟩ dL_acts_144) hS (fun _ h => h) rfl (fun w21 H locs hq hP hD hz hk hS => ?_)
    obtain ⟨hB, hsm⟩ := hq
    exact x_iret S hr hlk hS ⟨_, _, w21, _, rfl, .inl ⟨_, _, rfl, rfl⟩, hB, hQ.same hsm (Nat.le_refl 234), hP, hD⟩ dL_acts_147
  by_cases e1 : m17 = 1
  · refine lv_tableIn (tgt := 132) S.1 S.2.1 dL_acts_45 (by rw [e1]; decide) (by rw [e1]; decide) (by rw [e1]; rfl) (by decide) ?_
    refine lv_aload_n S.1 S.2.1 dL_acts_132 rfl (lv_at hl 4 rfl) ?_
    refine lv_iload S.1 S.2.1 dL_acts_133 (lv_at hl 1 rfl) ?_
    refine lv_iconst (v := 1) S.1 S.2.1 dL_acts_135 (by decide) ?_
    refine lv_aload_n S.1 S.2.1 dL_acts_136 rfl (lv_at hl 5 rfl) ?_
    refine x_aftQ (st1 := [.int (drw (dnx x16)), .int 1, .int m11, .ref (α 0)]) (x_St0 (As := [.ref qa]) (rest := [.int 1, .int m11, .ref (α 0)]) S ms_L_draw qw972 (l_draw l D A w15 (Nat.le_refl 234) hQ) hK hP hD (hE.kept hS.2.1) rfl rfl hl.1 (Nat.le_of_ble_eq_true rfl) rfl rfl ⟨(Nat.le_of_ble_eq_true rfl), (Nat.le_of_ble_eq_true rfl)⟩ ⟨(Nat.le_of_ble_eq_true rfl), (Nat.le_of_ble_eq_true rfl)⟩ dL_acts_137) hS (fun _ h => h) rfl (fun w18 H locs hq hP hD hz hk hS => ?_)
    obtain ⟨hQ, hsm⟩ := hq
    have hB : OB D α w18 v := hB.agree hsm
    generalize drw (dnx x16) = y19
    generalize dnx x16 = x19 at hQ
    clear hz hk hsm
    refine lv_bipush (v := 9) S.1 S.2.1 dL_acts_140 (by decide) ?_
    refine lv_irem S.1 S.2.1 dL_acts_142 (by decide) ?_
    generalize y19 - y19 / (9 : Int32) * (9 : Int32) = m20
    refine lv_iadd S.1 S.2.1 dL_acts_143 ?_
    refine x_aftQ (st1 := [.int (a_sail v m11 ((1 : Int32) + m20))]) (x_V0 (As := [.int m11, .int ((1 : Int32) + m20)]) (rest := []) S mi_X11_sail qw1091 (k_sail l D A w18 α hR hN m11 ((1 : Int32) + m20) hB) hK hP hD (hE.kept hS.2.1) (hB.recv hK hP) rfl rfl hl.1 (Nat.le_of_ble_eq_true rfl) rfl rfl ⟨(Nat.le_of_ble_eq_true rfl), (Nat.le_of_ble_eq_true rfl)⟩ ⟨(Nat.le_of_ble_eq_true rfl), (Nat.le_of_ble_eq_true rfl)⟩ dL_acts_144) hS (fun _ h => h) rfl (fun w21 H locs hq hP hD hz hk hS => ?_)
    obtain ⟨hB, hsm⟩ := hq
    exact x_iret S hr hlk hS ⟨_, _, w21, _, rfl, .inl ⟨_, _, rfl, rfl⟩, hB, hQ.same hsm (Nat.le_refl 234), hP, hD⟩ dL_acts_147
  by_cases e2 : m17 = 2
  · refine lv_tableIn (tgt := 148) S.1 S.2.1 dL_acts_45 (by rw [e2]; decide) (by rw [e2]; decide) (by rw [e2]; rfl) (by decide) ?_
    refine lv_aload_n S.1 S.2.1 dL_acts_148 rfl (lv_at hl 5 rfl) ?_
    refine x_aftQ (st1 := [.int (drw (dnx x16))]) (x_St0 (As := [.ref qa]) (rest := []) S ms_L_draw qw972 (l_draw l D A w15 (Nat.le_refl 234) hQ) hK hP hD (hE.kept hS.2.1) rfl rfl hl.1 (Nat.le_of_ble_eq_true rfl) rfl rfl ⟨(Nat.le_of_ble_eq_true rfl), (Nat.le_of_ble_eq_true rfl)⟩ ⟨(Nat.le_of_ble_eq_true rfl), (Nat.le_of_ble_eq_true rfl)⟩ dL_acts_149) hS (fun _ h => h) rfl (fun w18 H locs hq hP hD hz hk hS => ?_)
    obtain ⟨hQ, hsm⟩ := hq
    have hB : OB D α w18 v := hB.agree hsm
    generalize drw (dnx x16) = y19
    generalize dnx x16 = x19 at hQ
    clear hz hk hsm
    refine lv_iconst (v := 2) S.1 S.2.1 dL_acts_152 (by decide) ?_
    refine lv_irem S.1 S.2.1 dL_acts_153 (by decide) ?_
    generalize y19 - y19 / (2 : Int32) * (2 : Int32) = m20
    refine lv_if_ne (tgt := 174) S.1 S.2.1 dL_acts_154 (by decide) (fun _ => ?_) (fun _ => ?_)
    · refine lv_aload_n S.1 S.2.1 dL_acts_174 rfl (lv_at hl 4 rfl) ?_
      refine lv_iload S.1 S.2.1 dL_acts_175 (lv_at hl 1 rfl) ?_
      refine x_aftQ (st1 := [.int (a_comeHome v m11)]) (x_V0 (As := [.int m11]) (rest := []) S mi_X11_comeHome qw1131 (k_comeHome l D A w18 α hR hN m11 hB) hK hP hD (hE.kept hS.2.1) (hB.recv hK hP) rfl rfl hl.1 (Nat.le_of_ble_eq_true rfl) rfl rfl ⟨(Nat.le_of_ble_eq_true rfl), (Nat.le_of_ble_eq_true rfl)⟩ ⟨(Nat.le_of_ble_eq_true rfl), (Nat.le_of_ble_eq_true rfl)⟩ dL_acts_177) hS (fun _ h => h) rfl (fun w21 H locs hq hP hD hz hk hS => ?_)
      obtain ⟨hB, hsm⟩ := hq
      exact x_iret S hr hlk hS ⟨_, _, w21, _, rfl, .inr (.inr (.inl ⟨_, rfl, rfl⟩)), hB, hQ.same hsm (Nat.le_refl 234), hP, hD⟩ dL_acts_180
    · refine lv_aload_n S.1 S.2.1 dL_acts_157 rfl (lv_at hl 4 rfl) ?_
      refine lv_iload S.1 S.2.1 dL_acts_158 (lv_at hl 1 rfl) ?_
      refine lv_iconst (v := 1) S.1 S.2.1 dL_acts_160 (by decide) ?_
      refine lv_aload_n S.1 S.2.1 dL_acts_161 rfl (lv_at hl 5 rfl) ?_
      refine x_aftQ (st1 := [.int (drw (dnx x19)), .int 1, .int m11, .ref (α 0)]) (x_St0 (As := [.ref qa]) (rest := [.int 1, .int m11, .ref (α 0)]) S ms_L_draw qw972 (l_draw l D A w18 (Nat.le_refl 234) hQ) hK hP hD (hE.kept hS.2.1) rfl rfl hl.1 (Nat.le_of_ble_eq_true rfl) rfl rfl ⟨(Nat.le_of_ble_eq_true rfl), (Nat.le_of_ble_eq_true rfl)⟩ ⟨(Nat.le_of_ble_eq_true rfl), (Nat.le_of_ble_eq_true rfl)⟩ dL_acts_162) hS (fun _ h => h) rfl (fun w21 H locs hq hP hD hz hk hS => ?_)
      obtain ⟨hQ, hsm⟩ := hq
      have hB : OB D α w21 v := hB.agree hsm
      generalize drw (dnx x19) = y22
      generalize dnx x19 = x22 at hQ
      clear hz hk hsm
      refine lv_iconst (v := 3) S.1 S.2.1 dL_acts_165 (by decide) ?_
      refine lv_irem S.1 S.2.1 dL_acts_166 (by decide) ?_
      generalize y22 - y22 / (3 : Int32) * (3 : Int32) = m23
      refine lv_iadd S.1 S.2.1 dL_acts_167 ?_
      refine x_aftQ (st1 := [.int (a_delay v m11 ((1 : Int32) + m23))]) (x_V0 (As := [.int m11, .int ((1 : Int32) + m23)]) (rest := []) S mi_X11_delay qw1121 (k_delay l D A w21 α hR hN m11 ((1 : Int32) + m23) hB) hK hP hD (hE.kept hS.2.1) (hB.recv hK hP) rfl rfl hl.1 (Nat.le_of_ble_eq_true rfl) rfl rfl ⟨(Nat.le_of_ble_eq_true rfl), (Nat.le_of_ble_eq_true rfl)⟩ ⟨(Nat.le_of_ble_eq_true rfl), (Nat.le_of_ble_eq_true rfl)⟩ dL_acts_168) hS (fun _ h => h) rfl (fun w24 H locs hq hP hD hz hk hS => ?_)
      obtain ⟨hB, hsm⟩ := hq
      refine lv_goto (tgt := 180) S.1 S.2.1 dL_acts_171 (by decide) ?_
      exact x_iret S hr hlk hS ⟨_, _, w24, _, rfl, .inr (.inl ⟨_, _, rfl, rfl⟩), hB, hQ.same hsm (Nat.le_refl 234), hP, hD⟩ dL_acts_180
  by_cases e3 : m17 = 3
  · refine lv_tableIn (tgt := 181) S.1 S.2.1 dL_acts_45 (by rw [e3]; decide) (by rw [e3]; decide) (by rw [e3]; rfl) (by decide) ?_
    refine lv_aload_n S.1 S.2.1 dL_acts_181 rfl (lv_at hl 4 rfl) ?_
    refine lv_iload_n S.1 S.2.1 dL_acts_182 rfl (lv_at hl 3 rfl) ?_
    refine lv_aload_n S.1 S.2.1 dL_acts_183 rfl (lv_at hl 5 rfl) ?_
    refine x_aftQ (st1 := [.int (drw (dnx x16)), .int m4, .ref (α 0)]) (x_St0 (As := [.ref qa]) (rest := [.int m4, .ref (α 0)]) S ms_L_draw qw972 (l_draw l D A w15 (Nat.le_refl 234) hQ) hK hP hD (hE.kept hS.2.1) rfl rfl hl.1 (Nat.le_of_ble_eq_true rfl) rfl rfl ⟨(Nat.le_of_ble_eq_true rfl), (Nat.le_of_ble_eq_true rfl)⟩ ⟨(Nat.le_of_ble_eq_true rfl), (Nat.le_of_ble_eq_true rfl)⟩ dL_acts_184) hS (fun _ h => h) rfl (fun w18 H locs hq hP hD hz hk hS => ?_)
    obtain ⟨hQ, hsm⟩ := hq
    have hB : OB D α w18 v := hB.agree hsm
    generalize drw (dnx x16) = y19
    generalize dnx x16 = x19 at hQ
    clear hz hk hsm
    refine lv_iconst (v := 3) S.1 S.2.1 dL_acts_187 (by decide) ?_
    refine lv_irem S.1 S.2.1 dL_acts_188 (by decide) ?_
    generalize y19 - y19 / (3 : Int32) * (3 : Int32) = m20
    refine lv_if_ne (tgt := 197) S.1 S.2.1 dL_acts_189 (by decide) (fun _ => ?_) (fun _ => ?_)
    · refine lv_iload S.1 S.2.1 dL_acts_197 (lv_at hl 1 rfl) ?_
      refine x_aftQ (st1 := [.int (a_join v m4 m11)]) (x_V0 (As := [.int m4, .int m11]) (rest := []) S mi_X11_join qw1143 (k_join l D A w18 α hR hN m4 m11 hB) hK hP hD (hE.kept hS.2.1) (hB.recv hK hP) rfl rfl hl.1 (Nat.le_of_ble_eq_true rfl) rfl rfl ⟨(Nat.le_of_ble_eq_true rfl), (Nat.le_of_ble_eq_true rfl)⟩ ⟨(Nat.le_of_ble_eq_true rfl), (Nat.le_of_ble_eq_true rfl)⟩ dL_acts_199) hS (fun _ h => h) rfl (fun w21 H locs hq hP hD hz hk hS => ?_)
      obtain ⟨hB, hsm⟩ := hq
      exact x_iret S hr hlk hS ⟨_, _, w21, _, rfl, .inr (.inr (.inr (.inl ⟨_, _, rfl, rfl⟩))), hB, hQ.same hsm (Nat.le_refl 234), hP, hD⟩ dL_acts_202
    · refine lv_bipush (v := (-2)) S.1 S.2.1 dL_acts_192 (by decide) ?_
      refine lv_goto (tgt := 199) S.1 S.2.1 dL_acts_194 (by decide) ?_
      refine x_aftQ (st1 := [.int (a_join v m4 ((-2) : Int32))]) (x_V0 (As := [.int m4, .int (-2)]) (rest := []) S mi_X11_join qw1143 (k_join l D A w18 α hR hN m4 ((-2) : Int32) hB) hK hP hD (hE.kept hS.2.1) (hB.recv hK hP) rfl rfl hl.1 (Nat.le_of_ble_eq_true rfl) rfl rfl ⟨(Nat.le_of_ble_eq_true rfl), (Nat.le_of_ble_eq_true rfl)⟩ ⟨(Nat.le_of_ble_eq_true rfl), (Nat.le_of_ble_eq_true rfl)⟩ dL_acts_199) hS (fun _ h => h) rfl (fun w21 H locs hq hP hD hz hk hS => ?_)
      obtain ⟨hB, hsm⟩ := hq
      exact x_iret S hr hlk hS ⟨_, _, w21, _, rfl, .inr (.inr (.inr (.inl ⟨_, _, rfl, rfl⟩))), hB, hQ.same hsm (Nat.le_refl 234), hP, hD⟩ dL_acts_202
  by_cases e4 : m17 = 4
  · refine lv_tableIn (tgt := 203) S.1 S.2.1 dL_acts_45 (by rw [e4]; decide) (by rw [e4]; decide) (by rw [e4]; rfl) (by decide) ?_
    refine lv_aload_n S.1 S.2.1 dL_acts_203 rfl (lv_at hl 4 rfl) ?_
    refine lv_iconst (v := 2) S.1 S.2.1 dL_acts_204 (by decide) ?_
    refine lv_aload_n S.1 S.2.1 dL_acts_205 rfl (lv_at hl 5 rfl) ?_
    refine x_aftQ (st1 := [.int (drw (dnx x16)), .int 2, .ref (α 0)]) (x_St0 (As := [.ref qa]) (rest := [.int 2, .ref (α 0)]) S ms_L_draw qw972 (l_draw l D A w15 (Nat.le_refl 234) hQ) hK hP hD (hE.kept hS.2.1) rfl rfl hl.1 (Nat.le_of_ble_eq_true rfl) rfl rfl ⟨(Nat.le_of_ble_eq_true rfl), (Nat.le_of_ble_eq_true rfl)⟩ ⟨(Nat.le_of_ble_eq_true rfl), (Nat.le_of_ble_eq_true rfl)⟩ dL_acts_206) hS (fun _ h => h) rfl (fun w18 H locs hq hP hD hz hk hS => ?_)
    obtain ⟨hQ, hsm⟩ := hq
    have hB : OB D α w18 v := hB.agree hsm
    generalize drw (dnx x16) = y19
    generalize dnx x16 = x19 at hQ
    clear hz hk hsm
    refine lv_iconst (v := 3) S.1 S.2.1 dL_acts_209 (by decide) ?_
    refine lv_irem S.1 S.2.1 dL_acts_210 (by decide) ?_
    generalize y19 - y19 / (3 : Int32) * (3 : Int32) = m20
    refine lv_iadd S.1 S.2.1 dL_acts_211 ?_
    refine x_aftQ (st1 := [.int (a_open v ((2 : Int32) + m20))]) (x_V0 (As := [.int ((2 : Int32) + m20)]) (rest := []) S mi_X11_open qw389 (k_open l D A w18 α hR hN ((2 : Int32) + m20) hB) hK hP hD (hE.kept hS.2.1) (hB.recv hK hP) rfl rfl hl.1 (Nat.le_of_ble_eq_true rfl) rfl rfl ⟨(Nat.le_of_ble_eq_true rfl), (Nat.le_of_ble_eq_true rfl)⟩ ⟨(Nat.le_of_ble_eq_true rfl), (Nat.le_of_ble_eq_true rfl)⟩ dL_acts_212) hS (fun _ h => h) rfl (fun w21 H locs hq hP hD hz hk hS => ?_)
    obtain ⟨hB, hsm⟩ := hq
    exact x_iret S hr hlk hS ⟨_, _, w21, _, rfl, .inr (.inr (.inr (.inr (.inl ⟨_, rfl, rfl⟩)))), hB, hQ.same hsm (Nat.le_refl 234), hP, hD⟩ dL_acts_215
  by_cases e5 : m17 = 5
  · refine lv_tableIn (tgt := 216) S.1 S.2.1 dL_acts_45 (by rw [e5]; decide) (by rw [e5]; decide) (by rw [e5]; rfl) (by decide) ?_
    refine lv_aload_n S.1 S.2.1 dL_acts_216 rfl (lv_at hl 4 rfl) ?_
    refine lv_iload_n S.1 S.2.1 dL_acts_217 rfl (lv_at hl 3 rfl) ?_
    refine lv_iload_n S.1 S.2.1 dL_acts_218 rfl (lv_at hl 2 rfl) ?_
    refine lv_aload_n S.1 S.2.1 dL_acts_219 rfl (lv_at hl 5 rfl) ?_
    refine x_aftQ (st1 := [.int (drw (dnx x16)), .int m8, .int m4, .ref (α 0)]) (x_St0 (As := [.ref qa]) (rest := [.int m8, .int m4, .ref (α 0)]) S ms_L_draw qw972 (l_draw l D A w15 (Nat.le_refl 234) hQ) hK hP hD (hE.kept hS.2.1) rfl rfl hl.1 (Nat.le_of_ble_eq_true rfl) rfl rfl ⟨(Nat.le_of_ble_eq_true rfl), (Nat.le_of_ble_eq_true rfl)⟩ ⟨(Nat.le_of_ble_eq_true rfl), (Nat.le_of_ble_eq_true rfl)⟩ dL_acts_220) hS (fun _ h => h) rfl (fun w18 H locs hq hP hD hz hk hS => ?_)
    obtain ⟨hQ, hsm⟩ := hq
    have hB : OB D α w18 v := hB.agree hsm
    generalize drw (dnx x16) = y19
    generalize dnx x16 = x19 at hQ
    clear hz hk hsm
    refine lv_iconst (v := 2) S.1 S.2.1 dL_acts_223 (by decide) ?_
    refine lv_irem S.1 S.2.1 dL_acts_224 (by decide) ?_
    generalize y19 - y19 / (2 : Int32) * (2 : Int32) = m20
    refine lv_if_ne (tgt := 233) S.1 S.2.1 dL_acts_225 (by decide) (fun _ => ?_) (fun _ => ?_)
    · refine lv_iload S.1 S.2.1 dL_acts_233 (lv_at hl 0 rfl) ?_
      refine x_aftQ (st1 := [.int (a_give v m4 m8 m14)]) (x_V0 (As := [.int m4, .int m8, .int m14]) (rest := []) S mi_X11_give qw1151 (k_give l D A w18 α hR hN m4 m8 m14 hB) hK hP hD (hE.kept hS.2.1) (hB.recv hK hP) rfl rfl hl.1 (Nat.le_of_ble_eq_true rfl) rfl rfl ⟨(Nat.le_of_ble_eq_true rfl), (Nat.le_of_ble_eq_true rfl)⟩ ⟨(Nat.le_of_ble_eq_true rfl), (Nat.le_of_ble_eq_true rfl)⟩ dL_acts_235) hS (fun _ h => h) rfl (fun w21 H locs hq hP hD hz hk hS => ?_)
      obtain ⟨hB, hsm⟩ := hq
      exact x_iret S hr hlk hS ⟨_, _, w21, _, rfl, .inr (.inr (.inr (.inr (.inr (.inl ⟨_, _, _, rfl, rfl⟩))))), hB, hQ.same hsm (Nat.le_refl 234), hP, hD⟩ dL_acts_238
    · refine lv_bipush (v := (-2)) S.1 S.2.1 dL_acts_228 (by decide) ?_
      refine lv_goto (tgt := 235) S.1 S.2.1 dL_acts_230 (by decide) ?_
      refine x_aftQ (st1 := [.int (a_give v m4 m8 ((-2) : Int32))]) (x_V0 (As := [.int m4, .int m8, .int (-2)]) (rest := []) S mi_X11_give qw1151 (k_give l D A w18 α hR hN m4 m8 ((-2) : Int32) hB) hK hP hD (hE.kept hS.2.1) (hB.recv hK hP) rfl rfl hl.1 (Nat.le_of_ble_eq_true rfl) rfl rfl ⟨(Nat.le_of_ble_eq_true rfl), (Nat.le_of_ble_eq_true rfl)⟩ ⟨(Nat.le_of_ble_eq_true rfl), (Nat.le_of_ble_eq_true rfl)⟩ dL_acts_235) hS (fun _ h => h) rfl (fun w21 H locs hq hP hD hz hk hS => ?_)
      obtain ⟨hB, hsm⟩ := hq
      exact x_iret S hr hlk hS ⟨_, _, w21, _, rfl, .inr (.inr (.inr (.inr (.inr (.inl ⟨_, _, _, rfl, rfl⟩))))), hB, hQ.same hsm (Nat.le_refl 234), hP, hD⟩ dL_acts_238
  by_cases e6 : m17 = 6
  · refine lv_tableIn (tgt := 216) S.1 S.2.1 dL_acts_45 (by rw [e6]; decide) (by rw [e6]; decide) (by rw [e6]; rfl) (by decide) ?_
    refine lv_aload_n S.1 S.2.1 dL_acts_216 rfl (lv_at hl 4 rfl) ?_
    refine lv_iload_n S.1 S.2.1 dL_acts_217 rfl (lv_at hl 3 rfl) ?_
    refine lv_iload_n S.1 S.2.1 dL_acts_218 rfl (lv_at hl 2 rfl) ?_
    refine lv_aload_n S.1 S.2.1 dL_acts_219 rfl (lv_at hl 5 rfl) ?_
    refine x_aftQ (st1 := [.int (drw (dnx x16)), .int m8, .int m4, .ref (α 0)]) (x_St0 (As := [.ref qa]) (rest := [.int m8, .int m4, .ref (α 0)]) S ms_L_draw qw972 (l_draw l D A w15 (Nat.le_refl 234) hQ) hK hP hD (hE.kept hS.2.1) rfl rfl hl.1 (Nat.le_of_ble_eq_true rfl) rfl rfl ⟨(Nat.le_of_ble_eq_true rfl), (Nat.le_of_ble_eq_true rfl)⟩ ⟨(Nat.le_of_ble_eq_true rfl), (Nat.le_of_ble_eq_true rfl)⟩ dL_acts_220) hS (fun _ h => h) rfl (fun w18 H locs hq hP hD hz hk hS => ?_)
    obtain ⟨hQ, hsm⟩ := hq
    have hB : OB D α w18 v := hB.agree hsm
    generalize drw (dnx x16) = y19
    generalize dnx x16 = x19 at hQ
    clear hz hk hsm
    refine lv_iconst (v := 2) S.1 S.2.1 dL_acts_223 (by decide) ?_
    refine lv_irem S.1 S.2.1 dL_acts_224 (by decide) ?_
    generalize y19 - y19 / (2 : Int32) * (2 : Int32) = m20
    refine lv_if_ne (tgt := 233) S.1 S.2.1 dL_acts_225 (by decide) (fun _ => ?_) (fun _ => ?_)
    · refine lv_iload S.1 S.2.1 dL_acts_233 (lv_at hl 0 rfl) ?_
      refine x_aftQ (st1 := [.int (a_give v m4 m8 m14)]) (x_V0 (As := [.int m4, .int m8, .int m14]) (rest := []) S mi_X11_give qw1151 (k_give l D A w18 α hR hN m4 m8 m14 hB) hK hP hD (hE.kept hS.2.1) (hB.recv hK hP) rfl rfl hl.1 (Nat.le_of_ble_eq_true rfl) rfl rfl ⟨(Nat.le_of_ble_eq_true rfl), (Nat.le_of_ble_eq_true rfl)⟩ ⟨(Nat.le_of_ble_eq_true rfl), (Nat.le_of_ble_eq_true rfl)⟩ dL_acts_235) hS (fun _ h => h) rfl (fun w21 H locs hq hP hD hz hk hS => ?_)
      obtain ⟨hB, hsm⟩ := hq
      exact x_iret S hr hlk hS ⟨_, _, w21, _, rfl, .inr (.inr (.inr (.inr (.inr (.inl ⟨_, _, _, rfl, rfl⟩))))), hB, hQ.same hsm (Nat.le_refl 234), hP, hD⟩ dL_acts_238
    · refine lv_bipush (v := (-2)) S.1 S.2.1 dL_acts_228 (by decide) ?_
      refine lv_goto (tgt := 235) S.1 S.2.1 dL_acts_230 (by decide) ?_
      refine x_aftQ (st1 := [.int (a_give v m4 m8 ((-2) : Int32))]) (x_V0 (As := [.int m4, .int m8, .int (-2)]) (rest := []) S mi_X11_give qw1151 (k_give l D A w18 α hR hN m4 m8 ((-2) : Int32) hB) hK hP hD (hE.kept hS.2.1) (hB.recv hK hP) rfl rfl hl.1 (Nat.le_of_ble_eq_true rfl) rfl rfl ⟨(Nat.le_of_ble_eq_true rfl), (Nat.le_of_ble_eq_true rfl)⟩ ⟨(Nat.le_of_ble_eq_true rfl), (Nat.le_of_ble_eq_true rfl)⟩ dL_acts_235) hS (fun _ h => h) rfl (fun w21 H locs hq hP hD hz hk hS => ?_)
      obtain ⟨hB, hsm⟩ := hq
      exact x_iret S hr hlk hS ⟨_, _, w21, _, rfl, .inr (.inr (.inr (.inr (.inr (.inl ⟨_, _, _, rfl, rfl⟩))))), hB, hQ.same hsm (Nat.le_refl 234), hP, hD⟩ dL_acts_238
  by_cases e7 : m17 = 7
  · refine lv_tableIn (tgt := 216) S.1 S.2.1 dL_acts_45 (by rw [e7]; decide) (by rw [e7]; decide) (by rw [e7]; rfl) (by decide) ?_
    refine lv_aload_n S.1 S.2.1 dL_acts_216 rfl (lv_at hl 4 rfl) ?_
    refine lv_iload_n S.1 S.2.1 dL_acts_217 rfl (lv_at hl 3 rfl) ?_
    refine lv_iload_n S.1 S.2.1 dL_acts_218 rfl (lv_at hl 2 rfl) ?_
    refine lv_aload_n S.1 S.2.1 dL_acts_219 rfl (lv_at hl 5 rfl) ?_
    refine x_aftQ (st1 := [.int (drw (dnx x16)), .int m8, .int m4, .ref (α 0)]) (x_St0 (As := [.ref qa]) (rest := [.int m8, .int m4, .ref (α 0)]) S ms_L_draw qw972 (l_draw l D A w15 (Nat.le_refl 234) hQ) hK hP hD (hE.kept hS.2.1) rfl rfl hl.1 (Nat.le_of_ble_eq_true rfl) rfl rfl ⟨(Nat.le_of_ble_eq_true rfl), (Nat.le_of_ble_eq_true rfl)⟩ ⟨(Nat.le_of_ble_eq_true rfl), (Nat.le_of_ble_eq_true rfl)⟩ dL_acts_220) hS (fun _ h => h) rfl (fun w18 H locs hq hP hD hz hk hS => ?_)
    obtain ⟨hQ, hsm⟩ := hq
    have hB : OB D α w18 v := hB.agree hsm
    generalize drw (dnx x16) = y19
    generalize dnx x16 = x19 at hQ
    clear hz hk hsm
    refine lv_iconst (v := 2) S.1 S.2.1 dL_acts_223 (by decide) ?_
    refine lv_irem S.1 S.2.1 dL_acts_224 (by decide) ?_
    generalize y19 - y19 / (2 : Int32) * (2 : Int32) = m20
    refine lv_if_ne (tgt := 233) S.1 S.2.1 dL_acts_225 (by decide) (fun _ => ?_) (fun _ => ?_)
    · refine lv_iload S.1 S.2.1 dL_acts_233 (lv_at hl 0 rfl) ?_
      refine x_aftQ (st1 := [.int (a_give v m4 m8 m14)]) (x_V0 (As := [.int m4, .int m8, .int m14]) (rest := []) S mi_X11_give qw1151 (k_give l D A w18 α hR hN m4 m8 m14 hB) hK hP hD (hE.kept hS.2.1) (hB.recv hK hP) rfl rfl hl.1 (Nat.le_of_ble_eq_true rfl) rfl rfl ⟨(Nat.le_of_ble_eq_true rfl), (Nat.le_of_ble_eq_true rfl)⟩ ⟨(Nat.le_of_ble_eq_true rfl), (Nat.le_of_ble_eq_true rfl)⟩ dL_acts_235) hS (fun _ h => h) rfl (fun w21 H locs hq hP hD hz hk hS => ?_)
      obtain ⟨hB, hsm⟩ := hq
      exact x_iret S hr hlk hS ⟨_, _, w21, _, rfl, .inr (.inr (.inr (.inr (.inr (.inl ⟨_, _, _, rfl, rfl⟩))))), hB, hQ.same hsm (Nat.le_refl 234), hP, hD⟩ dL_acts_238
    · refine lv_bipush (v := (-2)) S.1 S.2.1 dL_acts_228 (by decide) ?_
      refine lv_goto (tgt := 235) S.1 S.2.1 dL_acts_230 (by decide) ?_
      refine x_aftQ (st1 := [.int (a_give v m4 m8 ((-2) : Int32))]) (x_V0 (As := [.int m4, .int m8, .int (-2)]) (rest := []) S mi_X11_give qw1151 (k_give l D A w18 α hR hN m4 m8 ((-2) : Int32) hB) hK hP hD (hE.kept hS.2.1) (hB.recv hK hP) rfl rfl hl.1 (Nat.le_of_ble_eq_true rfl) rfl rfl ⟨(Nat.le_of_ble_eq_true rfl), (Nat.le_of_ble_eq_true rfl)⟩ ⟨(Nat.le_of_ble_eq_true rfl), (Nat.le_of_ble_eq_true rfl)⟩ dL_acts_235) hS (fun _ h => h) rfl (fun w21 H locs hq hP hD hz hk hS => ?_)
      obtain ⟨hB, hsm⟩ := hq
      exact x_iret S hr hlk hS ⟨_, _, w21, _, rfl, .inr (.inr (.inr (.inr (.inr (.inl ⟨_, _, _, rfl, rfl⟩))))), hB, hQ.same hsm (Nat.le_refl 234), hP, hD⟩ dL_acts_238
  by_cases e8 : m17 = 8
  · refine lv_tableIn (tgt := 239) S.1 S.2.1 dL_acts_45 (by rw [e8]; decide) (by rw [e8]; decide) (by rw [e8]; rfl) (by decide) ?_
    refine lv_aload_n S.1 S.2.1 dL_acts_239 rfl (lv_at hl 4 rfl) ?_
    refine lv_iload_n S.1 S.2.1 dL_acts_240 rfl (lv_at hl 3 rfl) ?_
    refine x_aftQ (st1 := [.int (a_takeBack v m4)]) (x_V0 (As := [.int m4]) (rest := []) S mi_X11_takeBack qw1161 (k_takeBack l D A w15 α hR hN m4 hB) hK hP hD (hE.kept hS.2.1) (hB.recv hK hP) rfl rfl hl.1 (Nat.le_of_ble_eq_true rfl) rfl rfl ⟨(Nat.le_of_ble_eq_true rfl), (Nat.le_of_ble_eq_true rfl)⟩ ⟨(Nat.le_of_ble_eq_true rfl), (Nat.le_of_ble_eq_true rfl)⟩ dL_acts_241) hS (fun _ h => h) rfl (fun w18 H locs hq hP hD hz hk hS => ?_)
    obtain ⟨hB, hsm⟩ := hq
    exact x_iret S hr hlk hS ⟨_, _, w18, _, rfl, .inr (.inr (.inr (.inr (.inr (.inr (.inl ⟨_, rfl, rfl⟩)))))), hB, hQ.same hsm (Nat.le_refl 234), hP, hD⟩ dL_acts_244
  by_cases e9 : m17 = 9
  · refine lv_tableIn (tgt := 245) S.1 S.2.1 dL_acts_45 (by rw [e9]; decide) (by rw [e9]; decide) (by rw [e9]; rfl) (by decide) ?_
    refine lv_aload_n S.1 S.2.1 dL_acts_245 rfl (lv_at hl 4 rfl) ?_
    refine lv_iload_n S.1 S.2.1 dL_acts_246 rfl (lv_at hl 3 rfl) ?_
    refine lv_iload_n S.1 S.2.1 dL_acts_247 rfl (lv_at hl 3 rfl) ?_
    refine lv_iload S.1 S.2.1 dL_acts_248 (lv_at hl 0 rfl) ?_
    refine x_aftQ (st1 := [.int (a_lay v m4 m4 m14)]) (x_V0 (As := [.int m4, .int m4, .int m14]) (rest := []) S mi_X11_lay qw1170 (k_lay l D A w15 α hR hN m4 m4 m14 hB) hK hP hD (hE.kept hS.2.1) (hB.recv hK hP) rfl rfl hl.1 (Nat.le_of_ble_eq_true rfl) rfl rfl ⟨(Nat.le_of_ble_eq_true rfl), (Nat.le_of_ble_eq_true rfl)⟩ ⟨(Nat.le_of_ble_eq_true rfl), (Nat.le_of_ble_eq_true rfl)⟩ dL_acts_250) hS (fun _ h => h) rfl (fun w18 H locs hq hP hD hz hk hS => ?_)
    obtain ⟨hB, hsm⟩ := hq
    exact x_iret S hr hlk hS ⟨_, _, w18, _, rfl, .inr (.inr (.inr (.inr (.inr (.inr (.inr (.inl ⟨_, _, _, rfl, rfl⟩))))))), hB, hQ.same hsm (Nat.le_refl 234), hP, hD⟩ dL_acts_253
  by_cases e10 : m17 = 10
  · refine lv_tableIn (tgt := 245) S.1 S.2.1 dL_acts_45 (by rw [e10]; decide) (by rw [e10]; decide) (by rw [e10]; rfl) (by decide) ?_
    refine lv_aload_n S.1 S.2.1 dL_acts_245 rfl (lv_at hl 4 rfl) ?_
    refine lv_iload_n S.1 S.2.1 dL_acts_246 rfl (lv_at hl 3 rfl) ?_
    refine lv_iload_n S.1 S.2.1 dL_acts_247 rfl (lv_at hl 3 rfl) ?_
    refine lv_iload S.1 S.2.1 dL_acts_248 (lv_at hl 0 rfl) ?_
    refine x_aftQ (st1 := [.int (a_lay v m4 m4 m14)]) (x_V0 (As := [.int m4, .int m4, .int m14]) (rest := []) S mi_X11_lay qw1170 (k_lay l D A w15 α hR hN m4 m4 m14 hB) hK hP hD (hE.kept hS.2.1) (hB.recv hK hP) rfl rfl hl.1 (Nat.le_of_ble_eq_true rfl) rfl rfl ⟨(Nat.le_of_ble_eq_true rfl), (Nat.le_of_ble_eq_true rfl)⟩ ⟨(Nat.le_of_ble_eq_true rfl), (Nat.le_of_ble_eq_true rfl)⟩ dL_acts_250) hS (fun _ h => h) rfl (fun w18 H locs hq hP hD hz hk hS => ?_)
    obtain ⟨hB, hsm⟩ := hq
    exact x_iret S hr hlk hS ⟨_, _, w18, _, rfl, .inr (.inr (.inr (.inr (.inr (.inr (.inr (.inl ⟨_, _, _, rfl, rfl⟩))))))), hB, hQ.same hsm (Nat.le_refl 234), hP, hD⟩ dL_acts_253
  by_cases e11 : m17 = 11
  · refine lv_tableIn (tgt := 254) S.1 S.2.1 dL_acts_45 (by rw [e11]; decide) (by rw [e11]; decide) (by rw [e11]; rfl) (by decide) ?_
    refine lv_aload_n S.1 S.2.1 dL_acts_254 rfl (lv_at hl 4 rfl) ?_
    refine lv_aload_n S.1 S.2.1 dL_acts_255 rfl (lv_at hl 4 rfl) ?_
    refine lv_iload_n S.1 S.2.1 dL_acts_256 rfl (lv_at hl 3 rfl) ?_
    refine lv_iconst (v := 1) S.1 S.2.1 dL_acts_257 (by decide) ?_
    refine x_aftR (st1 := [.int (a_stick v m4 (1 : Int32)), .ref (α 0)]) (x_V0 (As := [.int m4, .int 1]) (rest := [.ref (α 0)]) S mi_X11_stick qw1209 (k_stick l D A w15 α m4 (1 : Int32) hB) hK hP hD (hE.kept hS.2.1) (hB.recv hK hP) rfl rfl hl.1 (Nat.le_of_ble_eq_true rfl) rfl rfl ⟨(Nat.le_of_ble_eq_true rfl), (Nat.le_of_ble_eq_true rfl)⟩ ⟨(Nat.le_of_ble_eq_true rfl), (Nat.le_of_ble_eq_true rfl)⟩ dL_acts_258) hS (fun _ h => h) rfl (fun locs hS => ?_)
    refine lv_if_ge (tgt := 268) S.1 S.2.1 dL_acts_261 (by decide) (fun _ => ?_) (fun _ => ?_)
    · refine lv_aload_n S.1 S.2.1 dL_acts_268 rfl (lv_at hl 4 rfl) ?_
      refine lv_iload_n S.1 S.2.1 dL_acts_269 rfl (lv_at hl 3 rfl) ?_
      refine lv_iconst (v := 1) S.1 S.2.1 dL_acts_270 (by decide) ?_
      refine x_aftR (st1 := [.int (a_stick v m4 (1 : Int32)), .ref (α 0)]) (x_V0 (As := [.int m4, .int 1]) (rest := [.ref (α 0)]) S mi_X11_stick qw1209 (k_stick l D A w15 α m4 (1 : Int32) hB) hK hP hD (hE.kept hS.2.1) (hB.recv hK hP) rfl rfl hl.1 (Nat.le_of_ble_eq_true rfl) rfl rfl ⟨(Nat.le_of_ble_eq_true rfl), (Nat.le_of_ble_eq_true rfl)⟩ ⟨(Nat.le_of_ble_eq_true rfl), (Nat.le_of_ble_eq_true rfl)⟩ dL_acts_271) hS (fun _ h => h) rfl (fun locs hS => ?_)
      refine lv_iload_n S.1 S.2.1 dL_acts_274 rfl (lv_at hl 3 rfl) ?_
      refine lv_iload S.1 S.2.1 dL_acts_275 (lv_at hl 0 rfl) ?_
      refine x_aftQ (st1 := [.int (a_lay v (a_stick v m4 (1 : Int32)) m4 m14)]) (x_V0 (As := [.int (a_stick v m4 (1 : Int32)), .int m4, .int m14]) (rest := []) S mi_X11_lay qw1170 (k_lay l D A w15 α hR hN (a_stick v m4 (1 : Int32)) m4 m14 hB) hK hP hD (hE.kept hS.2.1) (hB.recv hK hP) rfl rfl hl.1 (Nat.le_of_ble_eq_true rfl) rfl rfl ⟨(Nat.le_of_ble_eq_true rfl), (Nat.le_of_ble_eq_true rfl)⟩ ⟨(Nat.le_of_ble_eq_true rfl), (Nat.le_of_ble_eq_true rfl)⟩ dL_acts_277) hS (fun _ h => h) rfl (fun w18 H locs hq hP hD hz hk hS => ?_)
      obtain ⟨hB, hsm⟩ := hq
      exact x_iret S hr hlk hS ⟨_, _, w18, _, rfl, .inr (.inr (.inr (.inr (.inr (.inr (.inr (.inl ⟨_, _, _, rfl, rfl⟩))))))), hB, hQ.same hsm (Nat.le_refl 234), hP, hD⟩ dL_acts_280
    · refine lv_iload_n S.1 S.2.1 dL_acts_264 rfl (lv_at hl 3 rfl) ?_
      refine lv_goto (tgt := 274) S.1 S.2.1 dL_acts_265 (by decide) ?_
      refine lv_iload_n S.1 S.2.1 dL_acts_274 rfl (lv_at hl 3 rfl) ?_
      refine lv_iload S.1 S.2.1 dL_acts_275 (lv_at hl 0 rfl) ?_
      refine x_aftQ (st1 := [.int (a_lay v m4 m4 m14)]) (x_V0 (As := [.int m4, .int m4, .int m14]) (rest := []) S mi_X11_lay qw1170 (k_lay l D A w15 α hR hN m4 m4 m14 hB) hK hP hD (hE.kept hS.2.1) (hB.recv hK hP) rfl rfl hl.1 (Nat.le_of_ble_eq_true rfl) rfl rfl ⟨(Nat.le_of_ble_eq_true rfl), (Nat.le_of_ble_eq_true rfl)⟩ ⟨(Nat.le_of_ble_eq_true rfl), (Nat.le_of_ble_eq_true rfl)⟩ dL_acts_277) hS (fun _ h => h) rfl (fun w18 H locs hq hP hD hz hk hS => ?_)
      obtain ⟨hB, hsm⟩ := hq
      exact x_iret S hr hlk hS ⟨_, _, w18, _, rfl, .inr (.inr (.inr (.inr (.inr (.inr (.inr (.inl ⟨_, _, _, rfl, rfl⟩))))))), hB, hQ.same hsm (Nat.le_refl 234), hP, hD⟩ dL_acts_280
  by_cases e12 : m17 = 12
  · refine lv_tableIn (tgt := 254) S.1 S.2.1 dL_acts_45 (by rw [e12]; decide) (by rw [e12]; decide) (by rw [e12]; rfl) (by decide) ?_
    refine lv_aload_n S.1 S.2.1 dL_acts_254 rfl (lv_at hl 4 rfl) ?_
    refine lv_aload_n S.1 S.2.1 dL_acts_255 rfl (lv_at hl 4 rfl) ?_
    refine lv_iload_n S.1 S.2.1 dL_acts_256 rfl (lv_at hl 3 rfl) ?_
    refine lv_iconst (v := 1) S.1 S.2.1 dL_acts_257 (by decide) ?_
    refine x_aftR (st1 := [.int (a_stick v m4 (1 : Int32)), .ref (α 0)]) (x_V0 (As := [.int m4, .int 1]) (rest := [.ref (α 0)]) S mi_X11_stick qw1209 (k_stick l D A w15 α m4 (1 : Int32) hB) hK hP hD (hE.kept hS.2.1) (hB.recv hK hP) rfl rfl hl.1 (Nat.le_of_ble_eq_true rfl) rfl rfl ⟨(Nat.le_of_ble_eq_true rfl), (Nat.le_of_ble_eq_true rfl)⟩ ⟨(Nat.le_of_ble_eq_true rfl), (Nat.le_of_ble_eq_true rfl)⟩ dL_acts_258) hS (fun _ h => h) rfl (fun locs hS => ?_)
    refine lv_if_ge (tgt := 268) S.1 S.2.1 dL_acts_261 (by decide) (fun _ => ?_) (fun _ => ?_)
    · refine lv_aload_n S.1 S.2.1 dL_acts_268 rfl (lv_at hl 4 rfl) ?_
      refine lv_iload_n S.1 S.2.1 dL_acts_269 rfl (lv_at hl 3 rfl) ?_
      refine lv_iconst (v := 1) S.1 S.2.1 dL_acts_270 (by decide) ?_
      refine x_aftR (st1 := [.int (a_stick v m4 (1 : Int32)), .ref (α 0)]) (x_V0 (As := [.int m4, .int 1]) (rest := [.ref (α 0)]) S mi_X11_stick qw1209 (k_stick l D A w15 α m4 (1 : Int32) hB) hK hP hD (hE.kept hS.2.1) (hB.recv hK hP) rfl rfl hl.1 (Nat.le_of_ble_eq_true rfl) rfl rfl ⟨(Nat.le_of_ble_eq_true rfl), (Nat.le_of_ble_eq_true rfl)⟩ ⟨(Nat.le_of_ble_eq_true rfl), (Nat.le_of_ble_eq_true rfl)⟩ dL_acts_271) hS (fun _ h => h) rfl (fun locs hS => ?_)
      refine lv_iload_n S.1 S.2.1 dL_acts_274 rfl (lv_at hl 3 rfl) ?_
      refine lv_iload S.1 S.2.1 dL_acts_275 (lv_at hl 0 rfl) ?_
      refine x_aftQ (st1 := [.int (a_lay v (a_stick v m4 (1 : Int32)) m4 m14)]) (x_V0 (As := [.int (a_stick v m4 (1 : Int32)), .int m4, .int m14]) (rest := []) S mi_X11_lay qw1170 (k_lay l D A w15 α hR hN (a_stick v m4 (1 : Int32)) m4 m14 hB) hK hP hD (hE.kept hS.2.1) (hB.recv hK hP) rfl rfl hl.1 (Nat.le_of_ble_eq_true rfl) rfl rfl ⟨(Nat.le_of_ble_eq_true rfl), (Nat.le_of_ble_eq_true rfl)⟩ ⟨(Nat.le_of_ble_eq_true rfl), (Nat.le_of_ble_eq_true rfl)⟩ dL_acts_277) hS (fun _ h => h) rfl (fun w18 H locs hq hP hD hz hk hS => ?_)
      obtain ⟨hB, hsm⟩ := hq
      exact x_iret S hr hlk hS ⟨_, _, w18, _, rfl, .inr (.inr (.inr (.inr (.inr (.inr (.inr (.inl ⟨_, _, _, rfl, rfl⟩))))))), hB, hQ.same hsm (Nat.le_refl 234), hP, hD⟩ dL_acts_280
    · refine lv_iload_n S.1 S.2.1 dL_acts_264 rfl (lv_at hl 3 rfl) ?_
      refine lv_goto (tgt := 274) S.1 S.2.1 dL_acts_265 (by decide) ?_
      refine lv_iload_n S.1 S.2.1 dL_acts_274 rfl (lv_at hl 3 rfl) ?_
      refine lv_iload S.1 S.2.1 dL_acts_275 (lv_at hl 0 rfl) ?_
      refine x_aftQ (st1 := [.int (a_lay v m4 m4 m14)]) (x_V0 (As := [.int m4, .int m4, .int m14]) (rest := []) S mi_X11_lay qw1170 (k_lay l D A w15 α hR hN m4 m4 m14 hB) hK hP hD (hE.kept hS.2.1) (hB.recv hK hP) rfl rfl hl.1 (Nat.le_of_ble_eq_true rfl) rfl rfl ⟨(Nat.le_of_ble_eq_true rfl), (Nat.le_of_ble_eq_true rfl)⟩ ⟨(Nat.le_of_ble_eq_true rfl), (Nat.le_of_ble_eq_true rfl)⟩ dL_acts_277) hS (fun _ h => h) rfl (fun w18 H locs hq hP hD hz hk hS => ?_)
      obtain ⟨hB, hsm⟩ := hq
      exact x_iret S hr hlk hS ⟨_, _, w18, _, rfl, .inr (.inr (.inr (.inr (.inr (.inr (.inr (.inl ⟨_, _, _, rfl, rfl⟩))))))), hB, hQ.same hsm (Nat.le_refl 234), hP, hD⟩ dL_acts_280
  by_cases e13 : m17 = 13
  · refine lv_tableIn (tgt := 254) S.1 S.2.1 dL_acts_45 (by rw [e13]; decide) (by rw [e13]; decide) (by rw [e13]; rfl) (by decide) ?_
    refine lv_aload_n S.1 S.2.1 dL_acts_254 rfl (lv_at hl 4 rfl) ?_
    refine lv_aload_n S.1 S.2.1 dL_acts_255 rfl (lv_at hl 4 rfl) ?_
    refine lv_iload_n S.1 S.2.1 dL_acts_256 rfl (lv_at hl 3 rfl) ?_
    refine lv_iconst (v := 1) S.1 S.2.1 dL_acts_257 (by decide) ?_
    refine x_aftR (st1 := [.int (a_stick v m4 (1 : Int32)), .ref (α 0)]) (x_V0 (As := [.int m4, .int 1]) (rest := [.ref (α 0)]) S mi_X11_stick qw1209 (k_stick l D A w15 α m4 (1 : Int32) hB) hK hP hD (hE.kept hS.2.1) (hB.recv hK hP) rfl rfl hl.1 (Nat.le_of_ble_eq_true rfl) rfl rfl ⟨(Nat.le_of_ble_eq_true rfl), (Nat.le_of_ble_eq_true rfl)⟩ ⟨(Nat.le_of_ble_eq_true rfl), (Nat.le_of_ble_eq_true rfl)⟩ dL_acts_258) hS (fun _ h => h) rfl (fun locs hS => ?_)
    refine lv_if_ge (tgt := 268) S.1 S.2.1 dL_acts_261 (by decide) (fun _ => ?_) (fun _ => ?_)
    · refine lv_aload_n S.1 S.2.1 dL_acts_268 rfl (lv_at hl 4 rfl) ?_
      refine lv_iload_n S.1 S.2.1 dL_acts_269 rfl (lv_at hl 3 rfl) ?_
      refine lv_iconst (v := 1) S.1 S.2.1 dL_acts_270 (by decide) ?_
      refine x_aftR (st1 := [.int (a_stick v m4 (1 : Int32)), .ref (α 0)]) (x_V0 (As := [.int m4, .int 1]) (rest := [.ref (α 0)]) S mi_X11_stick qw1209 (k_stick l D A w15 α m4 (1 : Int32) hB) hK hP hD (hE.kept hS.2.1) (hB.recv hK hP) rfl rfl hl.1 (Nat.le_of_ble_eq_true rfl) rfl rfl ⟨(Nat.le_of_ble_eq_true rfl), (Nat.le_of_ble_eq_true rfl)⟩ ⟨(Nat.le_of_ble_eq_true rfl), (Nat.le_of_ble_eq_true rfl)⟩ dL_acts_271) hS (fun _ h => h) rfl (fun locs hS => ?_)
      refine lv_iload_n S.1 S.2.1 dL_acts_274 rfl (lv_at hl 3 rfl) ?_
      refine lv_iload S.1 S.2.1 dL_acts_275 (lv_at hl 0 rfl) ?_
      refine x_aftQ (st1 := [.int (a_lay v (a_stick v m4 (1 : Int32)) m4 m14)]) (x_V0 (As := [.int (a_stick v m4 (1 : Int32)), .int m4, .int m14]) (rest := []) S mi_X11_lay qw1170 (k_lay l D A w15 α hR hN (a_stick v m4 (1 : Int32)) m4 m14 hB) hK hP hD (hE.kept hS.2.1) (hB.recv hK hP) rfl rfl hl.1 (Nat.le_of_ble_eq_true rfl) rfl rfl ⟨(Nat.le_of_ble_eq_true rfl), (Nat.le_of_ble_eq_true rfl)⟩ ⟨(Nat.le_of_ble_eq_true rfl), (Nat.le_of_ble_eq_true rfl)⟩ dL_acts_277) hS (fun _ h => h) rfl (fun w18 H locs hq hP hD hz hk hS => ?_)
      obtain ⟨hB, hsm⟩ := hq
      exact x_iret S hr hlk hS ⟨_, _, w18, _, rfl, .inr (.inr (.inr (.inr (.inr (.inr (.inr (.inl ⟨_, _, _, rfl, rfl⟩))))))), hB, hQ.same hsm (Nat.le_refl 234), hP, hD⟩ dL_acts_280
    · refine lv_iload_n S.1 S.2.1 dL_acts_264 rfl (lv_at hl 3 rfl) ?_
      refine lv_goto (tgt := 274) S.1 S.2.1 dL_acts_265 (by decide) ?_
      refine lv_iload_n S.1 S.2.1 dL_acts_274 rfl (lv_at hl 3 rfl) ?_
      refine lv_iload S.1 S.2.1 dL_acts_275 (lv_at hl 0 rfl) ?_
      refine x_aftQ (st1 := [.int (a_lay v m4 m4 m14)]) (x_V0 (As := [.int m4, .int m4, .int m14]) (rest := []) S mi_X11_lay qw1170 (k_lay l D A w15 α hR hN m4 m4 m14 hB) hK hP hD (hE.kept hS.2.1) (hB.recv hK hP) rfl rfl hl.1 (Nat.le_of_ble_eq_true rfl) rfl rfl ⟨(Nat.le_of_ble_eq_true rfl), (Nat.le_of_ble_eq_true rfl)⟩ ⟨(Nat.le_of_ble_eq_true rfl), (Nat.le_of_ble_eq_true rfl)⟩ dL_acts_277) hS (fun _ h => h) rfl (fun w18 H locs hq hP hD hz hk hS => ?_)
      obtain ⟨hB, hsm⟩ := hq
      exact x_iret S hr hlk hS ⟨_, _, w18, _, rfl, .inr (.inr (.inr (.inr (.inr (.inr (.inr (.inl ⟨_, _, _, rfl, rfl⟩))))))), hB, hQ.same hsm (Nat.le_refl 234), hP, hD⟩ dL_acts_280
  by_cases e14 : m17 = 14
  · refine lv_tableIn (tgt := 281) S.1 S.2.1 dL_acts_45 (by rw [e14]; decide) (by rw [e14]; decide) (by rw [e14]; rfl) (by decide) ?_
    refine lv_aload_n S.1 S.2.1 dL_acts_281 rfl (lv_at hl 4 rfl) ?_
    refine lv_iload_n S.1 S.2.1 dL_acts_282 rfl (lv_at hl 3 rfl) ?_
    refine lv_iload_n S.1 S.2.1 dL_acts_283 rfl (lv_at hl 2 rfl) ?_
    refine x_aftQ (st1 := [.int (a_contest v m4 m8)]) (x_V0 (As := [.int m4, .int m8]) (rest := []) S mi_X11_contest qw1220 (k_contest l D A w15 α hR hN m4 m8 hB) hK hP hD (hE.kept hS.2.1) (hB.recv hK hP) rfl rfl hl.1 (Nat.le_of_ble_eq_true rfl) rfl rfl ⟨(Nat.le_of_ble_eq_true rfl), (Nat.le_of_ble_eq_true rfl)⟩ ⟨(Nat.le_of_ble_eq_true rfl), (Nat.le_of_ble_eq_true rfl)⟩ dL_acts_284) hS (fun _ h => h) rfl (fun w18 H locs hq hP hD hz hk hS => ?_)
    obtain ⟨⟨blB, blC, hB⟩, hsm⟩ := hq
    exact x_iret S hr hlk hS ⟨_, _, w18, _, rfl, .inr (.inr (.inr (.inr (.inr (.inr (.inr (.inr (.inl ⟨blB, blC, _, _, rfl, rfl⟩)))))))), hB, hQ.same hsm (Nat.le_refl 234), hP, hD⟩ dL_acts_287
  by_cases e15 : m17 = 15
  · refine lv_tableIn (tgt := 281) S.1 S.2.1 dL_acts_45 (by rw [e15]; decide) (by rw [e15]; decide) (by rw [e15]; rfl) (by decide) ?_
    refine lv_aload_n S.1 S.2.1 dL_acts_281 rfl (lv_at hl 4 rfl) ?_
    refine lv_iload_n S.1 S.2.1 dL_acts_282 rfl (lv_at hl 3 rfl) ?_
    refine lv_iload_n S.1 S.2.1 dL_acts_283 rfl (lv_at hl 2 rfl) ?_
    refine x_aftQ (st1 := [.int (a_contest v m4 m8)]) (x_V0 (As := [.int m4, .int m8]) (rest := []) S mi_X11_contest qw1220 (k_contest l D A w15 α hR hN m4 m8 hB) hK hP hD (hE.kept hS.2.1) (hB.recv hK hP) rfl rfl hl.1 (Nat.le_of_ble_eq_true rfl) rfl rfl ⟨(Nat.le_of_ble_eq_true rfl), (Nat.le_of_ble_eq_true rfl)⟩ ⟨(Nat.le_of_ble_eq_true rfl), (Nat.le_of_ble_eq_true rfl)⟩ dL_acts_284) hS (fun _ h => h) rfl (fun w18 H locs hq hP hD hz hk hS => ?_)
    obtain ⟨⟨blB, blC, hB⟩, hsm⟩ := hq
    exact x_iret S hr hlk hS ⟨_, _, w18, _, rfl, .inr (.inr (.inr (.inr (.inr (.inr (.inr (.inr (.inl ⟨blB, blC, _, _, rfl, rfl⟩)))))))), hB, hQ.same hsm (Nat.le_refl 234), hP, hD⟩ dL_acts_287
  by_cases e16 : m17 = 16
  · refine lv_tableIn (tgt := 288) S.1 S.2.1 dL_acts_45 (by rw [e16]; decide) (by rw [e16]; decide) (by rw [e16]; rfl) (by decide) ?_
    refine lv_aload_n S.1 S.2.1 dL_acts_288 rfl (lv_at hl 5 rfl) ?_
    refine x_aftQ (st1 := [.int (drw (dnx x16))]) (x_St0 (As := [.ref qa]) (rest := []) S ms_L_draw qw972 (l_draw l D A w15 (Nat.le_refl 234) hQ) hK hP hD (hE.kept hS.2.1) rfl rfl hl.1 (Nat.le_of_ble_eq_true rfl) rfl rfl ⟨(Nat.le_of_ble_eq_true rfl), (Nat.le_of_ble_eq_true rfl)⟩ ⟨(Nat.le_of_ble_eq_true rfl), (Nat.le_of_ble_eq_true rfl)⟩ dL_acts_289) hS (fun _ h => h) rfl (fun w18 H locs hq hP hD hz hk hS => ?_)
    obtain ⟨hQ, hsm⟩ := hq
    have hB : OB D α w18 v := hB.agree hsm
    generalize drw (dnx x16) = y19
    generalize dnx x16 = x19 at hQ
    clear hz hk hsm
    refine lv_iconst (v := 3) S.1 S.2.1 dL_acts_292 (by decide) ?_
    refine lv_irem S.1 S.2.1 dL_acts_293 (by decide) ?_
    generalize y19 - y19 / (3 : Int32) * (3 : Int32) = m20
    refine lv_if_ne (tgt := 304) S.1 S.2.1 dL_acts_294 (by decide) (fun _ => ?_) (fun _ => ?_)
    · refine lv_aload_n S.1 S.2.1 dL_acts_304 rfl (lv_at hl 4 rfl) ?_
      refine lv_iconst (v := 2) S.1 S.2.1 dL_acts_305 (by decide) ?_
      refine x_aftQ (st1 := [.int (a_open v (2 : Int32))]) (x_V0 (As := [.int 2]) (rest := []) S mi_X11_open qw389 (k_open l D A w18 α hR hN (2 : Int32) hB) hK hP hD (hE.kept hS.2.1) (hB.recv hK hP) rfl rfl hl.1 (Nat.le_of_ble_eq_true rfl) rfl rfl ⟨(Nat.le_of_ble_eq_true rfl), (Nat.le_of_ble_eq_true rfl)⟩ ⟨(Nat.le_of_ble_eq_true rfl), (Nat.le_of_ble_eq_true rfl)⟩ dL_acts_306) hS (fun _ h => h) rfl (fun w21 H locs hq hP hD hz hk hS => ?_)
      obtain ⟨hB, hsm⟩ := hq
      exact x_iret S hr hlk hS ⟨_, _, w21, _, rfl, .inr (.inr (.inr (.inr (.inl ⟨_, rfl, rfl⟩)))), hB, hQ.same hsm (Nat.le_refl 234), hP, hD⟩ dL_acts_309
    · refine lv_aload_n S.1 S.2.1 dL_acts_297 rfl (lv_at hl 4 rfl) ?_
      refine x_aftQ (st1 := [.int (a_close v)]) (x_V0 (As := []) (rest := []) S mi_X11_close qw1265 (k_close l D A w18 α hR hN  hB) hK hP hD (hE.kept hS.2.1) (hB.recv hK hP) rfl rfl hl.1 (Nat.le_of_ble_eq_true rfl) rfl rfl ⟨(Nat.le_of_ble_eq_true rfl), (Nat.le_of_ble_eq_true rfl)⟩ ⟨(Nat.le_of_ble_eq_true rfl), (Nat.le_of_ble_eq_true rfl)⟩ dL_acts_298) hS (fun _ h => h) rfl (fun w21 H locs hq hP hD hz hk hS => ?_)
      obtain ⟨⟨blB, blC, hB⟩, hsm⟩ := hq
      refine lv_goto (tgt := 309) S.1 S.2.1 dL_acts_301 (by decide) ?_
      exact x_iret S hr hlk hS ⟨_, _, w21, _, rfl, .inr (.inr (.inr (.inr (.inr (.inr (.inr (.inr (.inr (.inl ⟨blB, blC, rfl, rfl⟩))))))))), hB, hQ.same hsm (Nat.le_refl 234), hP, hD⟩ dL_acts_309
  by_cases e17 : m17 = 17
  · refine lv_tableIn (tgt := 310) S.1 S.2.1 dL_acts_45 (by rw [e17]; decide) (by rw [e17]; decide) (by rw [e17]; rfl) (by decide) ?_
    refine lv_aload_n S.1 S.2.1 dL_acts_310 rfl (lv_at hl 4 rfl) ?_
    refine x_aftQ (st1 := [.int (a_recount v)]) (x_V0 (As := []) (rest := []) S mi_X11_recount qw1273 (k_recount l D A w15 α hR hN  hB) hK hP hD (hE.kept hS.2.1) (hB.recv hK hP) rfl rfl hl.1 (Nat.le_of_ble_eq_true rfl) rfl rfl ⟨(Nat.le_of_ble_eq_true rfl), (Nat.le_of_ble_eq_true rfl)⟩ ⟨(Nat.le_of_ble_eq_true rfl), (Nat.le_of_ble_eq_true rfl)⟩ dL_acts_311) hS (fun _ h => h) rfl (fun w18 H locs hq hP hD hz hk hS => ?_)
    obtain ⟨⟨blB, blC, hB⟩, hsm⟩ := hq
    exact x_iret S hr hlk hS ⟨_, _, w18, _, rfl, .inr (.inr (.inr (.inr (.inr (.inr (.inr (.inr (.inr (.inr (.inl ⟨blB, blC, rfl, rfl⟩)))))))))), hB, hQ.same hsm (Nat.le_refl 234), hP, hD⟩ dL_acts_314
  have hout : m17.toInt < (0 : Int) ∨ (17 : Int) < m17.toInt := sw_out (lo := 0) (n := 18) (by decide) (fun i hi => by match i, hi with | 0, _ => exact e0 | 1, _ => exact e1 | 2, _ => exact e2 | 3, _ => exact e3 | 4, _ => exact e4 | 5, _ => exact e5 | 6, _ => exact e6 | 7, _ => exact e7 | 8, _ => exact e8 | 9, _ => exact e9 | 10, _ => exact e10 | 11, _ => exact e11 | 12, _ => exact e12 | 13, _ => exact e13 | 14, _ => exact e14 | 15, _ => exact e15 | 16, _ => exact e16 | 17, _ => exact e17 | i + 18, h => exact absurd h (by omega))
  refine lv_tableOut (tgt := 315) S.1 S.2.1 dL_acts_45 hout (by decide) ?_
  refine lv_aload_n S.1 S.2.1 dL_acts_315 rfl (lv_at hl 4 rfl) ?_
  refine lv_iconst (v := 1) S.1 S.2.1 dL_acts_316 (by decide) ?_
  refine lv_aload_n S.1 S.2.1 dL_acts_317 rfl (lv_at hl 5 rfl) ?_
  refine x_aftQ (st1 := [.int (drw (dnx x16)), .int 1, .ref (α 0)]) (x_St0 (As := [.ref qa]) (rest := [.int 1, .ref (α 0)]) S ms_L_draw qw972 (l_draw l D A w15 (Nat.le_refl 234) hQ) hK hP hD (hE.kept hS.2.1) rfl rfl hl.1 (Nat.le_of_ble_eq_true rfl) rfl rfl ⟨(Nat.le_of_ble_eq_true rfl), (Nat.le_of_ble_eq_true rfl)⟩ ⟨(Nat.le_of_ble_eq_true rfl), (Nat.le_of_ble_eq_true rfl)⟩ dL_acts_318) hS (fun _ h => h) rfl (fun w18 H locs hq hP hD hz hk hS => ?_)
  obtain ⟨hQ, hsm⟩ := hq
  have hB : OB D α w18 v := hB.agree hsm
  generalize drw (dnx x16) = y19
  generalize dnx x16 = x19 at hQ
  clear hz hk hsm
  refine lv_iconst (v := 4) S.1 S.2.1 dL_acts_321 (by decide) ?_
  refine lv_irem S.1 S.2.1 dL_acts_322 (by decide) ?_
  generalize y19 - y19 / (4 : Int32) * (4 : Int32) = m20
  refine lv_iadd S.1 S.2.1 dL_acts_323 ?_
  refine x_aftQ (st1 := [.int (a_pass v ((1 : Int32) + m20))]) (x_V0 (As := [.int ((1 : Int32) + m20)]) (rest := []) S mi_X11_pass qw1283 (k_pass l D A w18 α hR hN ((1 : Int32) + m20) hB) hK hP hD (hE.kept hS.2.1) (hB.recv hK hP) rfl rfl hl.1 (Nat.le_of_ble_eq_true rfl) rfl rfl ⟨(Nat.le_of_ble_eq_true rfl), (Nat.le_of_ble_eq_true rfl)⟩ ⟨(Nat.le_of_ble_eq_true rfl), (Nat.le_of_ble_eq_true rfl)⟩ dL_acts_324) hS (fun _ h => h) rfl (fun w21 H locs hq hP hD hz hk hS => ?_)
  obtain ⟨hB, hsm⟩ := hq
  exact x_iret S hr hlk hS ⟨_, _, w21, _, rfl, .inr (.inr (.inr (.inr (.inr (.inr (.inr (.inr (.inr (.inr (.inr (⟨_, rfl, rfl⟩))))))))))), hB, hQ.same hsm (Nat.le_refl 234), hP, hD⟩ dL_acts_327
