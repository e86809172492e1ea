noncomputable def S_X6_writeNumber_6 (tx : Nat → Int32) (txl : Int32) : (Nat → Int32) × Int32 := (f_X1_add 2048 tx txl 32)
noncomputable def S_X6_writeNumber_14 (tx : Nat → Int32) (txl : Int32) (x : Int32) : (Nat → Int32) × Int32 := (f_X1_addNumber 2048 ((S_X6_writeNumber_6 tx txl).1) ((S_X6_writeNumber_6 tx txl).2) x)
noncomputable def f_X6_writeNumber (tx : Nat → Int32) (txl : Int32) (x : Int32) : (Nat → Int32) × Int32 := ((S_X6_writeNumber_14 tx txl x).1, (S_X6_writeNumber_14 tx txl x).2)
set_option maxHeartbeats 4000000 in
set_option maxRecDepth 100000 in
theorem c_X6_writeNumber (l : Launch) (D : va_G) (A : Nat → Prop) (w : va_W) (α : Nat → Nat) (k : Nat) (tx : Nat → Int32) (txl : Int32) (x : Int32) (hB0 : Blk w k (cScribe D α k tx txl)) : Met l yX6_writeNumber (ws_ yX6_writeNumber cX6_writeNumber 2 none) ({ frames := 2, cells := 0, slots := 0, locals := 47 }) (gPre D A [.ref (α (k)), .int x] w) (gQ D A none (fun w1 => Blk w1 k (cScribe D α k ((f_X6_writeNumber tx txl x).1) ((f_X6_writeNumber tx txl x).2)) ∧ Same w w1 k 3)) 0 0 A := by
  refine g_met [(0, .ref (α (k))), (1, .int x)] (plainFor_of_name (by decide)) (Nat.le_of_ble_eq_true rfl) rfl (fun pg en s mi ar below me co ls S hK hP hD hE hS hr hlk hnm hl => ?_)
  have hF : Same w w k 3 := Same.rf
  refine lv_aload_n S.1 S.2.1 dX6_writeNumber_0 rfl (lv_at hl 0 rfl) ?_
  refine g_get (v := .ref (α (k + 1))) S hK hP (hB0 0 _ rfl) rfl inX6 0 (by decide) qw293 rfl dX6_writeNumber_1 ?_
  refine lv_bipush (v := 32) S.1 S.2.1 dX6_writeNumber_4 (by decide) ?_
  have hNm : (f_X1_add 2048 tx txl 32) = (S_X6_writeNumber_6 tx txl) := rfl
  have hCon := (c_X1_add l D A w α (k + 1) 2048 tx txl 32 (hB0.sub 1 rfl) (Nat.le_of_ble_eq_true rfl))
  rw [hNm] at hCon
  refine g_aft0 (st1 := []) (g_V (As := [.int 32]) (rest := []) S mi_X1_add qw1422 hCon hK hP hD hE hS (hB0 1 _ rfl) rfl rfl rfl hl.1 (Nat.le_of_ble_eq_true rfl) rfl rfl ⟨(Nat.le_of_ble_eq_true rfl), (Nat.le_of_ble_eq_true rfl)⟩ ⟨(Nat.le_of_ble_eq_true rfl), (Nat.le_of_ble_eq_true rfl)⟩ dX6_writeNumber_6) hS rfl (fun w1 H locs hQ hP hD hS => ?_)
  have hF := hF.call 1 hQ.2 (by decide)
  have hB0 : Blk w1 k (cScribe D α k ((S_X6_writeNumber_6 tx txl).1) ((S_X6_writeNumber_6 tx txl).2)) := hB0.splice 1 hQ.1 hQ.2 rfl (Nat.le_of_ble_eq_true rfl)
  refine lv_aload_n S.1 S.2.1 dX6_writeNumber_9 rfl (lv_at hl 0 rfl) ?_
  refine g_get (v := .ref (α (k + 1))) S hK hP (hB0 0 _ rfl) rfl inX6 0 (by decide) qw293 rfl dX6_writeNumber_10 ?_
  refine lv_iload_n S.1 S.2.1 dX6_writeNumber_13 rfl (lv_at hl 1 rfl) ?_
  have hNm : (f_X1_addNumber 2048 ((S_X6_writeNumber_6 tx txl).1) ((S_X6_writeNumber_6 tx txl).2) x) = (S_X6_writeNumber_14 tx txl x) := rfl
  have hCon := (c_X1_addNumber l D A w1 α (k + 1) 2048 ((S_X6_writeNumber_6 tx txl).1) ((S_X6_writeNumber_6 tx txl).2) x (hB0.sub 1 rfl) (Nat.le_of_ble_eq_true rfl))
  rw [hNm] at hCon
  refine g_aft0 (st1 := []) (g_V (As := [.int x]) (rest := []) S mi_X1_addNumber qw1447 hCon hK hP hD hE hS (hB0 1 _ rfl) rfl rfl rfl hl.1 (Nat.le_of_ble_eq_true rfl) rfl rfl ⟨(Nat.le_of_ble_eq_true rfl), (Nat.le_of_ble_eq_true rfl)⟩ ⟨(Nat.le_of_ble_eq_true rfl), (Nat.le_of_ble_eq_true rfl)⟩ dX6_writeNumber_14) hS rfl (fun w2 H locs hQ hP hD hS => ?_)
  have hF := hF.call 1 hQ.2 (by decide)
  have hB0 : Blk w2 k (cScribe D α k ((S_X6_writeNumber_14 tx txl x).1) ((S_X6_writeNumber_14 tx txl x).2)) := hB0.splice 1 hQ.1 hQ.2 rfl (Nat.le_of_ble_eq_true rfl)
  have hf : (f_X6_writeNumber tx txl x) = ((S_X6_writeNumber_14 tx txl x).1, (S_X6_writeNumber_14 tx txl x).2) := rfl
  exact g_vret S hr hlk hP hD hS (rfl) (⟨by rw [hf]; dsimp only; exact hB0, hF⟩) dX6_writeNumber_17
