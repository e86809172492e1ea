set_option maxHeartbeats 4000000 in
set_option maxRecDepth 100000 in
theorem c_X5_init_8 (l : Launch) (D : va_G) (A : Nat → Prop) (α : Nat → Nat) (k a : Nat) (w0 : va_W) (hk : w0.length = k) (hα : ∀ i, i < 2 → α (k + i) = a + i) (hA : ∀ q, a ≤ q → A q) : Met l yX5_init (ws_ yX5_init cX5_init 2 none) ({ frames := 1, cells := 1, slots := 32, locals := 16 } : Room) (gPreN D A [.ref (α k), .int 8] (w0 ++ [cO α k 5 [.int 0, .null, .int 0]]) (a + 1)) (gQ D A none (fun w1 => w1 = w0 ++ cRing D α k 8 z0 0)) 1 32 A := by
  refine g_metN [(0, .ref (α k)), (1, .int 8)] (plainFor_of_name (by decide)) (Nat.le_of_ble_eq_true rfl) rfl (fun pg en s mi ar below me co ls S hK hP hD hE hS hsz hr hlk hnm hl => ?_)
  refine lv_aload_n S.1 S.2.1 dX5_init_0 rfl (lv_at hl 0 rfl) ?_
  refine n_objInit S hl.1 qw168 qw30 qw31 dX5_init_1 (Nat.le_of_ble_eq_true rfl) (Nat.le_of_ble_eq_true rfl) ?_
  refine lv_aload_n S.1 S.2.1 dX5_init_4 rfl (lv_at hl 0 rfl) ?_
  refine lv_iload_n S.1 S.2.1 dX5_init_5 rfl (lv_at hl 1 rfl) ?_
  refine lv_iconst (v := 1) S.1 S.2.1 dX5_init_6 (by decide) ?_
  refine va_mmax S.1 S.2.1 (S.2.2.1.trans hl.1.symm) S.2.2.2.1 (S.2.2.2.2 _ qw169) (S.2.2.2.2 _ qw45) (S.2.2.2.2 _ qw4) (S.2.2.2.2 _ qw46) (Nat.le_of_ble_eq_true rfl) (Nat.le_of_ble_eq_true rfl) (Nat.le_of_ble_eq_true rfl) (Nat.le_of_ble_eq_true rfl) dX5_init_7 ?_
  refine n_putF (E := ([cO α k 5 [.int 0, .null, .int 0]])) (E' := ([cO α k 5 [.int (if (8 : Int32) < 1 then 1 else 8), .null, .int 0]])) (q := 0) (f := 0) S (hnm.trans rfl) hK hP hD hS hk rfl rfl inX5 tyX5_ok nmX5 (by decide) qw170 rfl rfl rfl rfl (Nat.le_of_ble_eq_true rfl) rfl dX5_init_10 (fun H locs hP hD hS => ?_)
  refine lv_aload_n S.1 S.2.1 dX5_init_13 rfl (lv_at hl 0 rfl) ?_
  refine lv_aload_n S.1 S.2.1 dX5_init_14 rfl (lv_at hl 0 rfl) ?_
  refine g_get (v := .int (if (8 : Int32) < 1 then 1 else 8)) S hK hP (q0 := k + 0) (ap_at hk rfl) rfl inX5 0 (by decide) qw170 rfl dX5_init_15 ?_
  refine lv_iconst (v := 4) S.1 S.2.1 dX5_init_18 (by decide) ?_
  refine lv_imul S.1 S.2.1 dX5_init_19 ?_
  refine n_newa (E := ([cO α k 5 [.int (if (8 : Int32) < 1 then 1 else 8), .null, .int 0]])) (E' := ([cO α k 5 [.int (if (8 : Int32) < 1 then 1 else 8), .null, .int 0], cI D α (k + 1) 32 z0])) (ty := .int) (a0 := (32, .inl z0)) S hK hP hD hS hA hα hsz hk 0 rfl (Nat.le_of_ble_eq_true rfl) rfl rfl (fun C q => by cases q) qw80 0 rfl (fun _ => rfl) (by decide) (by decide) (Nat.le_of_ble_eq_true rfl) (Nat.le_of_ble_eq_true rfl) (Nat.le_of_ble_eq_true rfl) rfl dX5_init_20 (fun H hP hD hS => ?_)
  refine n_putF (E := ([cO α k 5 [.int (if (8 : Int32) < 1 then 1 else 8), .null, .int 0], cI D α (k + 1) 32 z0])) (E' := ([cO α k 5 [.int (if (8 : Int32) < 1 then 1 else 8), .ref (α (k + 1)), .int 0], cI D α (k + 1) 32 z0])) (q := 0) (f := 1) S (hnm.trans rfl) hK hP hD hS hk rfl rfl inX5 tyX5_ok nmX5 (by decide) qw171 rfl rfl rfl rfl (Nat.le_of_ble_eq_true rfl) rfl dX5_init_22 (fun H locs hP hD hS => ?_)
  exact g_vret S hr hlk hP hD hS rfl rfl dX5_init_25
set_option maxHeartbeats 4000000 in
set_option maxRecDepth 100000 in
theorem c_X5_init_30 (l : Launch) (D : va_G) (A : Nat → Prop) (α : Nat → Nat) (k a : Nat) (w0 : va_W) (hk : w0.length = k) (hα : ∀ i, i < 2 → α (k + i) = a + i) (hA : ∀ q, a ≤ q → A q) : Met l yX5_init (ws_ yX5_init cX5_init 2 none) ({ frames := 1, cells := 1, slots := 120, locals := 16 } : Room) (gPreN D A [.ref (α k), .int 30] (w0 ++ [cO α k 5 [.int 0, .null, .int 0]]) (a + 1)) (gQ D A none (fun w1 => w1 = w0 ++ cRing D α k 30 z0 0)) 1 120 A := by
  refine g_metN [(0, .ref (α k)), (1, .int 30)] (plainFor_of_name (by decide)) (Nat.le_of_ble_eq_true rfl) rfl (fun pg en s mi ar below me co ls S hK hP hD hE hS hsz hr hlk hnm hl => ?_)
  refine lv_aload_n S.1 S.2.1 dX5_init_0 rfl (lv_at hl 0 rfl) ?_
  refine n_objInit S hl.1 qw168 qw30 qw31 dX5_init_1 (Nat.le_of_ble_eq_true rfl) (Nat.le_of_ble_eq_true rfl) ?_
  refine lv_aload_n S.1 S.2.1 dX5_init_4 rfl (lv_at hl 0 rfl) ?_
  refine lv_iload_n S.1 S.2.1 dX5_init_5 rfl (lv_at hl 1 rfl) ?_
  refine lv_iconst (v := 1) S.1 S.2.1 dX5_init_6 (by decide) ?_
  refine va_mmax S.1 S.2.1 (S.2.2.1.trans hl.1.symm) S.2.2.2.1 (S.2.2.2.2 _ qw169) (S.2.2.2.2 _ qw45) (S.2.2.2.2 _ qw4) (S.2.2.2.2 _ qw46) (Nat.le_of_ble_eq_true rfl) (Nat.le_of_ble_eq_true rfl) (Nat.le_of_ble_eq_true rfl) (Nat.le_of_ble_eq_true rfl) dX5_init_7 ?_
  refine n_putF (E := ([cO α k 5 [.int 0, .null, .int 0]])) (E' := ([cO α k 5 [.int (if (30 : Int32) < 1 then 1 else 30), .null, .int 0]])) (q := 0) (f := 0) S (hnm.trans rfl) hK hP hD hS hk rfl rfl inX5 tyX5_ok nmX5 (by decide) qw170 rfl rfl rfl rfl (Nat.le_of_ble_eq_true rfl) rfl dX5_init_10 (fun H locs hP hD hS => ?_)
  refine lv_aload_n S.1 S.2.1 dX5_init_13 rfl (lv_at hl 0 rfl) ?_
  refine lv_aload_n S.1 S.2.1 dX5_init_14 rfl (lv_at hl 0 rfl) ?_
  refine g_get (v := .int (if (30 : Int32) < 1 then 1 else 30)) S hK hP (q0 := k + 0) (ap_at hk rfl) rfl inX5 0 (by decide) qw170 rfl dX5_init_15 ?_
  refine lv_iconst (v := 4) S.1 S.2.1 dX5_init_18 (by decide) ?_
  refine lv_imul S.1 S.2.1 dX5_init_19 ?_
  refine n_newa (E := ([cO α k 5 [.int (if (30 : Int32) < 1 then 1 else 30), .null, .int 0]])) (E' := ([cO α k 5 [.int (if (30 : Int32) < 1 then 1 else 30), .null, .int 0], cI D α (k + 1) 120 z0])) (ty := .int) (a0 := (120, .inl z0)) S hK hP hD hS hA hα hsz hk 0 rfl (Nat.le_of_ble_eq_true rfl) rfl rfl (fun C q => by cases q) qw80 0 rfl (fun _ => rfl) (by decide) (by decide) (Nat.le_of_ble_eq_true rfl) (Nat.le_of_ble_eq_true rfl) (Nat.le_of_ble_eq_true rfl) rfl dX5_init_20 (fun H hP hD hS => ?_)
  refine n_putF (E := ([cO α k 5 [.int (if (30 : Int32) < 1 then 1 else 30), .null, .int 0], cI D α (k + 1) 120 z0])) (E' := ([cO α k 5 [.int (if (30 : Int32) < 1 then 1 else 30), .ref (α (k + 1)), .int 0], cI D α (k + 1) 120 z0])) (q := 0) (f := 1) S (hnm.trans rfl) hK hP hD hS hk rfl rfl inX5 tyX5_ok nmX5 (by decide) qw171 rfl rfl rfl rfl (Nat.le_of_ble_eq_true rfl) rfl dX5_init_22 (fun H locs hP hD hS => ?_)
  exact g_vret S hr hlk hP hD hS rfl rfl dX5_init_25
