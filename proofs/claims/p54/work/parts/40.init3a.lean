set_option maxHeartbeats 4000000 in
set_option maxRecDepth 100000 in
theorem c_X1_init_800 (l : Launch) (D : va_G) (A : Nat → Prop) (α : Nat → Nat) (k a : Nat) (w0 : va_W) (hk : w0.length = k) (hα : ∀ i, i < 2 → α (k + i) = a + i) (hA : ∀ q, a ≤ q → A q) : Met l yX1_init (ws_ yX1_init cX1_init 2 none) ({ frames := 1, cells := 1, slots := 800, locals := 16 } : Room) (gPreN D A [.ref (α k), .int 800] (w0 ++ [cO α k 1 [.null, .int 0]]) (a + 1)) (gQ D A none (fun w1 => w1 = w0 ++ cBytes D α k 800 z0 0)) 1 800 A := by
  refine g_metN [(0, .ref (α k)), (1, .int 800)] (plainFor_of_name (by decide)) (Nat.le_of_ble_eq_true rfl) rfl (fun pg en s mi ar below me co ls S hK hP hD hE hS hsz hr hlk hnm hl => ?_)
  refine lv_aload_n S.1 S.2.1 dX1_init_0 rfl (lv_at hl 0 rfl) ?_
  refine n_objInit S hl.1 qw43 qw30 qw31 dX1_init_1 (Nat.le_of_ble_eq_true rfl) (Nat.le_of_ble_eq_true rfl) ?_
  refine lv_aload_n S.1 S.2.1 dX1_init_4 rfl (lv_at hl 0 rfl) ?_
  refine lv_iload_n S.1 S.2.1 dX1_init_5 rfl (lv_at hl 1 rfl) ?_
  refine lv_iconst (v := 0) S.1 S.2.1 dX1_init_6 (by decide) ?_
  refine va_mmax S.1 S.2.1 (S.2.2.1.trans hl.1.symm) S.2.2.2.1 (S.2.2.2.2 _ qw44) (S.2.2.2.2 _ qw45) (S.2.2.2.2 _ qw4) (S.2.2.2.2 _ qw46) (Nat.le_of_ble_eq_true rfl) (Nat.le_of_ble_eq_true rfl) (Nat.le_of_ble_eq_true rfl) (Nat.le_of_ble_eq_true rfl) dX1_init_7 ?_
  refine n_newa (E := ([cO α k 1 [.null, .int 0]])) (E' := ([cO α k 1 [.null, .int 0], cB D α (k + 1) 800 z0])) (ty := .byte) (a0 := (800, .inl z0)) S hK hP hD hS hA hα hsz hk 0 rfl (Nat.le_of_ble_eq_true rfl) rfl rfl (fun C q => by cases q) qw54 1 rfl (fun _ => rfl) (by decide) (by decide) (Nat.le_of_ble_eq_true rfl) (Nat.le_of_ble_eq_true rfl) (Nat.le_of_ble_eq_true rfl) rfl dX1_init_10 (fun H hP hD hS => ?_)
  refine n_putF (E := ([cO α k 1 [.null, .int 0], cB D α (k + 1) 800 z0])) (E' := ([cO α k 1 [.ref (α (k + 1)), .int 0], cB D α (k + 1) 800 z0])) (q := 0) (f := 0) S (hnm.trans rfl) hK hP hD hS hk rfl rfl inX1 tyX1_ok nmX1 (by decide) qw47 rfl rfl rfl rfl (Nat.le_of_ble_eq_true rfl) rfl dX1_init_12 (fun H locs hP hD hS => ?_)
  exact g_vret S hr hlk hP hD hS rfl rfl dX1_init_15
set_option maxHeartbeats 4000000 in
set_option maxRecDepth 100000 in
theorem c_X1_init_2048 (l : Launch) (D : va_G) (A : Nat → Prop) (α : Nat → Nat) (k a : Nat) (w0 : va_W) (hk : w0.length = k) (hα : ∀ i, i < 2 → α (k + i) = a + i) (hA : ∀ q, a ≤ q → A q) : Met l yX1_init (ws_ yX1_init cX1_init 2 none) ({ frames := 1, cells := 1, slots := 2048, locals := 16 } : Room) (gPreN D A [.ref (α k), .int 2048] (w0 ++ [cO α k 1 [.null, .int 0]]) (a + 1)) (gQ D A none (fun w1 => w1 = w0 ++ cBytes D α k 2048 z0 0)) 1 2048 A := by
  refine g_metN [(0, .ref (α k)), (1, .int 2048)] (plainFor_of_name (by decide)) (Nat.le_of_ble_eq_true rfl) rfl (fun pg en s mi ar below me co ls S hK hP hD hE hS hsz hr hlk hnm hl => ?_)
  refine lv_aload_n S.1 S.2.1 dX1_init_0 rfl (lv_at hl 0 rfl) ?_
  refine n_objInit S hl.1 qw43 qw30 qw31 dX1_init_1 (Nat.le_of_ble_eq_true rfl) (Nat.le_of_ble_eq_true rfl) ?_
  refine lv_aload_n S.1 S.2.1 dX1_init_4 rfl (lv_at hl 0 rfl) ?_
  refine lv_iload_n S.1 S.2.1 dX1_init_5 rfl (lv_at hl 1 rfl) ?_
  refine lv_iconst (v := 0) S.1 S.2.1 dX1_init_6 (by decide) ?_
  refine va_mmax S.1 S.2.1 (S.2.2.1.trans hl.1.symm) S.2.2.2.1 (S.2.2.2.2 _ qw44) (S.2.2.2.2 _ qw45) (S.2.2.2.2 _ qw4) (S.2.2.2.2 _ qw46) (Nat.le_of_ble_eq_true rfl) (Nat.le_of_ble_eq_true rfl) (Nat.le_of_ble_eq_true rfl) (Nat.le_of_ble_eq_true rfl) dX1_init_7 ?_
  refine n_newa (E := ([cO α k 1 [.null, .int 0]])) (E' := ([cO α k 1 [.null, .int 0], cB D α (k + 1) 2048 z0])) (ty := .byte) (a0 := (2048, .inl z0)) S hK hP hD hS hA hα hsz hk 0 rfl (Nat.le_of_ble_eq_true rfl) rfl rfl (fun C q => by cases q) qw54 1 rfl (fun _ => rfl) (by decide) (by decide) (Nat.le_of_ble_eq_true rfl) (Nat.le_of_ble_eq_true rfl) (Nat.le_of_ble_eq_true rfl) rfl dX1_init_10 (fun H hP hD hS => ?_)
  refine n_putF (E := ([cO α k 1 [.null, .int 0], cB D α (k + 1) 2048 z0])) (E' := ([cO α k 1 [.ref (α (k + 1)), .int 0], cB D α (k + 1) 2048 z0])) (q := 0) (f := 0) S (hnm.trans rfl) hK hP hD hS hk rfl rfl inX1 tyX1_ok nmX1 (by decide) qw47 rfl rfl rfl rfl (Nat.le_of_ble_eq_true rfl) rfl dX1_init_12 (fun H locs hP hD hS => ?_)
  exact g_vret S hr hlk hP hD hS rfl rfl dX1_init_15
