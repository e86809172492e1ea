/-! toString, equals, lowestOneBit -/
set_option maxHeartbeats 4000000 in
theorem x_J0_init_81219 (l : Launch) (D : va_G) (A : Nat → Prop) (a : Nat) (b v m n : Nat) (f : Nat → Int32) (n0 : Nat) (hA : ∀ q, n0 ≤ q → A q) (hf : fbt f) (hn : n ≤ m) (hm : m < 65536) : Met l yJ0_init_81219 (ws_ yJ0_init_81219 cJ0_init_81219 2 (Option.none : Option Jvm.ClassFile.FieldType)) ({ frames := 4, cells := 1, slots := n, locals := 150 } : Room) (gPx D A [.ref a, .ref b] (stn a ++ sbW D b v m f n) (fun U H => n0 ≤ H.size ∧ CN U)) (gG A (fun V H H1 => V = none ∧ ∃ (v1 : Nat) (f1 : Nat → Int32), (∀ j, j < n → f1 j = f j) ∧ va_P D vwCl (stW D a v1 n f1) H1 ∧ va_D A (stW D a v1 n f1))) 1 n A := by
  refine g_metX [(0, .ref a), (1, .ref b)] (by decide +kernel) (Nat.le_of_ble_eq_true rfl) rfl (fun pg en s mi ar below me co ls S hK hP hD hE hS hx hr hlk hnm hl => ?_)
  refine lv_aload_n S.1 S.2.1 dJ0_init_81219_0 rfl (lv_at hl 0 rfl) ?_
  refine lv_aload_n S.1 S.2.1 dJ0_init_81219_1 rfl (lv_at hl 1 rfl) ?_
  refine lv_null S.1 S.2.1 dJ0_init_81219_2 ?_
  refine x_aft (x_I (As := [.ref b, .null]) (rest := []) S mc_J0_init_db425 qw1040 (x_J0_init_db425 l D A a b v m n f n0 hA hf hn hm) (stX_and stX_sz stX_cn) hK hP hD (hE.kept hS.2.1) ⟨Nat.le_trans hx.1 hS.1, hx.2⟩  rfl rfl hl.1 (Nat.le_of_ble_eq_true rfl) rfl rfl ⟨(Nat.le_of_ble_eq_true rfl), (Nat.le_of_ble_eq_true rfl)⟩ ⟨(by show 0 + 1 ≤ 1; omega), (by show 0 + n ≤ n; omega)⟩ dJ0_init_81219_3) hS (fun _ h => h) (fun V H1 locs hq9 hz9 hk9 hS => ?_)
  obtain ⟨rfl, v1, f1, e1, hP, hD⟩ := hq9
  rw [Nat.zero_add n]
  exact x_vret S hr hlk hS ⟨rfl, v1, f1, e1, hP, hD⟩ dJ0_init_81219_6
set_option maxHeartbeats 4000000 in
theorem x_J4_toString_0e30d (l : Launch) (D : va_G) (A : Nat → Prop) (b v m n : Nat) (f : Nat → Int32) (n0 : Nat) (hA : ∀ q, n0 ≤ q → A q) (hf : fbt f) (hn : n ≤ m) (hm : m < 65536) : Met l yJ4_toString_0e30d (ws_ yJ4_toString_0e30d cJ4_toString_0e30d 1 (Option.some (Jvm.ClassFile.FieldType.object "java/lang/String"))) ({ frames := 5, cells := 2, slots := (4 + n), locals := 190 } : Room) (gPx D A [.ref b] (sbW D b v m f n) (fun U H => n0 ≤ H.size ∧ CN U)) (gG A (fun V H H1 => ∃ (a v1 : Nat) (f1 : Nat → Int32), V = some (.ref a) ∧ (∀ j, j < n → f1 j = f j) ∧ va_P D vwCl (stW D a v1 n f1) H1 ∧ va_D A (stW D a v1 n f1))) 2 (4 + n) A := by
  refine g_metX [(0, .ref b)] (by decide +kernel) (Nat.le_of_ble_eq_true rfl) rfl (fun pg en s mi ar below me co ls S hK hP hD hE hS hx hr hlk hnm hl => ?_)
  refine g_new (C := RJ0) (T := TJ0) (N := 4) (ci := 12) (fs := [.null, .int 0, .int 0, .int 0]) S hK hP hD hS (hA _ (Nat.le_trans hx.1 hS.1)) inJ0 tyJ0_ok rfl qw1035 qw1036 qw16 (fun j hj => by match j, hj with | 0, _ => rfl | 1, _ => rfl | 2, _ => rfl | 3, _ => rfl) (by show 0 + 1 ≤ 2; omega) (by show 0 + 4 ≤ 4 + n; omega) dJ4_toString_0e30d_0 (fun H1 hz1 hP hD hS => ?_)
  have hP := hP.sub [2, 0, 1] (ws' := stn s.heap.size ++ sbW D b v m f n) rfl
  have hD := hD.sub [2, 0, 1] (ws' := stn s.heap.size ++ sbW D b v m f n) (by decide) rfl
  skip
  refine lv_dup S.1 S.2.1 dJ4_toString_0e30d_3 rfl ?_
  refine lv_aload_n S.1 S.2.1 dJ4_toString_0e30d_4 rfl (lv_at hl 0 rfl) ?_
  refine x_aft (x_I (As := [.ref b]) (rest := [.ref s.heap.size]) S mc_J0_init_81219 qw1037 (x_J0_init_81219 l D A s.heap.size b v m n f n0 hA hf hn hm) (stX_and stX_sz stX_cn) hK hP hD (hE.kept hS.2.1) ⟨Nat.le_trans hx.1 hS.1, hx.2⟩  rfl rfl hl.1 (Nat.le_of_ble_eq_true rfl) rfl rfl ⟨(Nat.le_of_ble_eq_true rfl), (Nat.le_of_ble_eq_true rfl)⟩ ⟨(by show (0 + 1) + 1 ≤ 2; omega), (by show (0 + 4) + n ≤ (4 + n); omega)⟩ dJ4_toString_0e30d_5) hS (fun _ h => h) (fun V H1 locs hq9 hz9 hk9 hS => ?_)
  obtain ⟨rfl, v1, f1, e1, hP, hD⟩ := hq9
  rw [show 0 + 4 + n = 4 + n from by omega]
  exact x_aret S hr hlk hS ⟨s.heap.size, v1, f1, rfl, e1, hP, hD⟩ dJ4_toString_0e30d_8
set_option maxHeartbeats 4000000 in
theorem x_J1_equals_b5fdf (l : Launch) (D : va_G) (A : Nat → Prop) (w : va_W) (v1 v2 n : Nat) (b1 b2 : Nat → Int32) (hn : n < 2 ^ 26) (he : ∀ j, j < n → b1 j = b2 j) : Met l yJ1_equals_b5fdf (ws_ yJ1_equals_b5fdf cJ1_equals_b5fdf 3 (Option.some Jvm.ClassFile.FieldType.boolean)) ({ frames := 0, cells := 0, slots := 0, locals := 0 } : Room) (gPx D A [.ref v1, .ref v2] w (fun U H => va_T .byte v1 n (fun j => .int (b1 j)) A U H ∧ va_T .byte v2 n (fun j => .int (b2 j)) A U H)) (gR (some (.int 1))) 0 0 A := by
  refine g_metX [(0, .ref v1), (1, .ref v2)] (by decide +kernel) (Nat.le_of_ble_eq_true rfl) rfl (fun pg en s mi ar below me co ls S hK hP hD hE hS hx hr hlk hnm hl => ?_)
  refine lv_aload_n S.1 S.2.1 dJ1_equals_b5fdf_0 rfl (lv_at hl 0 rfl) ?_
  refine va_tlen S.1 S.2.1 hx.1 hS (v := nI n) rfl dJ1_equals_b5fdf_1 ?_
  refine lv_aload_n S.1 S.2.1 dJ1_equals_b5fdf_2 rfl (lv_at hl 1 rfl) ?_
  refine va_tlen S.1 S.2.1 hx.2 hS (v := nI n) rfl dJ1_equals_b5fdf_3 ?_
  refine lv_icmp_ne (tgt := 34) S.1 S.2.1 dJ1_equals_b5fdf_4 (by decide) (fun z9 => absurd (rfl) z9) (fun _ => ?_)
  refine lv_iconst (v := 0) S.1 S.2.1 dJ1_equals_b5fdf_7 (by decide) ?_
  refine lv_istore_n (lv' := [(2, .int (nI 0)), (0, .ref v1), (1, .ref v2)]) S.1 S.2.1 dJ1_equals_b5fdf_8 rfl hl (by decide) rfl (fun ls hl => ?_)
  have loop : ∀ (r j : Nat) (locs : List Loc) (ls : Array Slot), j + r = n → va_S A s.heap s.heap locs → lv_has ls 3 [(2, .int (nI j)), (0, .ref v1), (1, .ref v2)] → W pg l en ({ frames := 0, cells := 0, slots := 0, locals := 0 } : Room) s mi ar below me co s.heap locs 0 0 (MQ below (gR (some (.int 1))) ar s 0 0 A) (F0 mi 9 ls []) := by
    intro r
    induction r with
    | zero =>
      intro j locs ls hj hS hl
      refine lv_iload_n S.1 S.2.1 dJ1_equals_b5fdf_9 rfl (lv_at hl 0 rfl) ?_
      refine lv_aload_n S.1 S.2.1 dJ1_equals_b5fdf_10 rfl (lv_at hl 1 rfl) ?_
      refine va_tlen S.1 S.2.1 hx.1 hS (v := nI n) rfl dJ1_equals_b5fdf_11 ?_
      refine lv_icmp_ge (tgt := 32) S.1 S.2.1 dJ1_equals_b5fdf_12 (by decide) (fun _ => ?_) (fun z9 => absurd (nI_le (by omega) (by omega)) z9)
      refine lv_iconst (v := 1) S.1 S.2.1 dJ1_equals_b5fdf_32 (by decide) ?_
      exact g_nretR S hr hlk hS (by decide) rfl dJ1_equals_b5fdf_33
    | succ r ih =>
      intro j locs ls hj hS hl
      refine lv_iload_n S.1 S.2.1 dJ1_equals_b5fdf_9 rfl (lv_at hl 0 rfl) ?_
      refine lv_aload_n S.1 S.2.1 dJ1_equals_b5fdf_10 rfl (lv_at hl 1 rfl) ?_
      refine va_tlen S.1 S.2.1 hx.1 hS (v := nI n) rfl dJ1_equals_b5fdf_11 ?_
      refine lv_icmp_ge (tgt := 32) S.1 S.2.1 dJ1_equals_b5fdf_12 (by decide) (fun z9 => absurd ((nI_leI (by omega) (by omega)).mp z9) (by omega)) (fun _ => ?_)
      refine lv_aload_n S.1 S.2.1 dJ1_equals_b5fdf_15 rfl (lv_at hl 1 rfl) ?_
      refine lv_iload_n S.1 S.2.1 dJ1_equals_b5fdf_16 rfl (lv_at hl 0 rfl) ?_
      refine va_tb S.1 S.2.1 hx.1 hS (vp_in_nI (show j < n by omega) (by omega)) (v := .int (b1 j)) (by rw [nI_clamp (by omega)]) dJ1_equals_b5fdf_17 ?_
      refine lv_aload_n S.1 S.2.1 dJ1_equals_b5fdf_18 rfl (lv_at hl 2 rfl) ?_
      refine lv_iload_n S.1 S.2.1 dJ1_equals_b5fdf_19 rfl (lv_at hl 0 rfl) ?_
      refine va_tb S.1 S.2.1 hx.2 hS (vp_in_nI (show j < n by omega) (by omega)) (v := .int (b2 j)) (by rw [nI_clamp (by omega)]) dJ1_equals_b5fdf_20 ?_
      refine lv_icmp_eq (tgt := 26) S.1 S.2.1 dJ1_equals_b5fdf_21 (by decide) (fun _ => ?_) (fun z9 => absurd (he j (by omega)) z9)
      refine lv_iinc (v := nI (j + 1)) (lv' := [(2, .int (nI (j + 1))), (0, .ref v1), (1, .ref v2)]) S.1 S.2.1 dJ1_equals_b5fdf_26 hl (k := 0) rfl (nI_succ j).symm (by decide) rfl (fun ls hl => ?_)
      refine lv_goto (tgt := 9) S.1 S.2.1 dJ1_equals_b5fdf_29 (by decide) ?_
      exact ih (j + 1) _ _ (by omega) hS hl
  exact loop n 0 _ _ (Nat.zero_add n) hS hl
set_option maxHeartbeats 4000000 in
theorem x_J0_equals_9ea2d (l : Launch) (D : va_G) (A : Nat → Prop) (w : va_W) (a1 v1 a2 v2 n : Nat) (b1 b2 : Nat → Int32) (hn : n < 2 ^ 26) (he : ∀ j, j < n → b1 j = b2 j) : Met l yJ0_equals_9ea2d (ws_ yJ0_equals_9ea2d cJ0_equals_9ea2d 3 (Option.some Jvm.ClassFile.FieldType.boolean)) ({ frames := 1, cells := 0, slots := 0, locals := 24 } : Room) (gPx D A [.ref a1, .ref a2] w (fun U H => Tx A U H a1 v1 n b1 ∧ Tx A U H a2 v2 n b2)) (gR (some (.int 1))) 0 0 A := by
  refine g_metX [(0, .ref a1), (1, .ref a2)] (by decide +kernel) (Nat.le_of_ble_eq_true rfl) rfl (fun pg en s mi ar below me co ls S hK hP hD hE hS hx hr hlk hnm hl => ?_)
  refine lv_aload_n S.1 S.2.1 dJ0_equals_9ea2d_0 rfl (lv_at hl 0 rfl) ?_
  refine lv_aload_n S.1 S.2.1 dJ0_equals_9ea2d_1 rfl (lv_at hl 1 rfl) ?_
  refine lv_acmp_ne (rx := some a1) (ry := some a2) (tgt := 7) S.1 S.2.1 dJ0_equals_9ea2d_2 (by decide) (fun _ => ?_) (fun _ => ?_)
  · refine lv_aload_n S.1 S.2.1 dJ0_equals_9ea2d_7 rfl (lv_at hl 1 rfl) ?_
    refine va_instE S.1 S.2.1 S.2.2.2.1 (S.2.2.2.2 _ qw1593) hx.2.recv dJ0_equals_9ea2d_8 ?_
    refine lv_if_eq (tgt := 54) S.1 S.2.1 dJ0_equals_9ea2d_11 (by decide) (fun q => absurd q (by decide)) (fun _ => ?_)
    refine lv_aload_n S.1 S.2.1 dJ0_equals_9ea2d_14 rfl (lv_at hl 1 rfl) ?_
    refine va_castE S.1 S.2.1 S.2.2.2.1 (S.2.2.2.2 _ qw1593) hx.2.recv dJ0_equals_9ea2d_15 ?_
    refine lv_astore_n (lv' := [(2, .ref a2), (0, .ref a1), (1, .ref a2)]) S.1 S.2.1 dJ0_equals_9ea2d_18 rfl hl (by decide) rfl (fun ls hl => ?_)
    refine va_gets S.1 S.2.1 hE.2.2.2.2.1 hS S.2.2.2.1 (S.2.2.2.2 _ qw548) (fun _ h => h) dJ0_equals_9ea2d_19 ?_
    refine lv_if_eq (tgt := 36) S.1 S.2.1 dJ0_equals_9ea2d_22 (by decide) (fun q => absurd q (by decide)) (fun _ => ?_)
    refine lv_aload_n S.1 S.2.1 dJ0_equals_9ea2d_25 rfl (lv_at hl 1 rfl) ?_
    refine vk_getf S.1 S.2.1 hx.1.2.1 hS S.2.2.2.1 (S.2.2.2.2 _ qw1078) (fun _ h => h) dJ0_equals_9ea2d_26 ?_
    refine lv_aload_n S.1 S.2.1 dJ0_equals_9ea2d_29 rfl (lv_at hl 0 rfl) ?_
    refine vk_getf S.1 S.2.1 hx.2.2.1 hS S.2.2.2.1 (S.2.2.2.2 _ qw1078) (fun _ h => h) dJ0_equals_9ea2d_30 ?_
    refine lv_icmp_ne (tgt := 54) S.1 S.2.1 dJ0_equals_9ea2d_33 (by decide) (fun z9 => absurd rfl z9) (fun _ => ?_)
    refine lv_aload_n S.1 S.2.1 dJ0_equals_9ea2d_36 rfl (lv_at hl 1 rfl) ?_
    refine vk_getf S.1 S.2.1 hx.1.2.2.1 hS S.2.2.2.1 (S.2.2.2.2 _ qw1077) (fun _ h => h) dJ0_equals_9ea2d_37 ?_
    refine lv_aload_n S.1 S.2.1 dJ0_equals_9ea2d_40 rfl (lv_at hl 0 rfl) ?_
    refine vk_getf S.1 S.2.1 hx.2.2.2.1 hS S.2.2.2.1 (S.2.2.2.2 _ qw1077) (fun _ h => h) dJ0_equals_9ea2d_41 ?_
    refine x_aftR (st1 := [.int 1]) (x_St (As := [.ref v1, .ref v2]) (rest := []) S ms_J1_equals_b5fdf qw1594 (x_J1_equals_b5fdf l D A w v1 v2 n b1 b2 hn he) (stX_and stX_bt stX_bt) hK hP hD (hE.kept hS.2.1) ⟨hx.1.2.2.2.kept hS.2.1, hx.2.2.2.2.kept hS.2.1⟩ rfl rfl hl.1 (Nat.le_of_ble_eq_true rfl) rfl rfl ⟨(Nat.le_of_ble_eq_true rfl), (Nat.le_of_ble_eq_true rfl)⟩ ⟨(Nat.le_of_ble_eq_true rfl), (Nat.le_of_ble_eq_true rfl)⟩ dJ0_equals_9ea2d_44) hS (fun _ h => h) rfl (fun locs hS => ?_)
    refine lv_if_eq (tgt := 54) S.1 S.2.1 dJ0_equals_9ea2d_47 (by decide) (fun q => absurd q (by decide)) (fun _ => ?_)
    refine lv_iconst (v := 1) S.1 S.2.1 dJ0_equals_9ea2d_50 (by decide) ?_
    refine lv_goto (tgt := 55) S.1 S.2.1 dJ0_equals_9ea2d_51 (by decide) ?_
    exact g_nretR S hr hlk hS (by decide) rfl dJ0_equals_9ea2d_55
  · refine lv_iconst (v := 1) S.1 S.2.1 dJ0_equals_9ea2d_5 (by decide) ?_
    exact g_nretR S hr hlk hS (by decide) rfl dJ0_equals_9ea2d_6
set_option maxHeartbeats 4000000 in
theorem x_J6_lowestOneBit_0f7a4 (l : Launch) (D : va_G) (A : Nat → Prop) (w : va_W) (x : Int32) : Met l yJ6_lowestOneBit_0f7a4 (ws_ yJ6_lowestOneBit_0f7a4 cJ6_lowestOneBit_0f7a4 1 (Option.some Jvm.ClassFile.FieldType.int)) ({ frames := 0, cells := 0, slots := 0, locals := 0 } : Room) (gPx D A [.int x] w (fun _ _ => True)) (gR (some (.int (x &&& -x)))) 0 0 A := by
  refine g_metX [(0, .int x)] (by decide +kernel) (Nat.le_of_ble_eq_true rfl) rfl (fun pg en s mi ar below me co ls S hK hP hD hE hS hx hr hlk hnm hl => ?_)
  refine lv_iload_n S.1 S.2.1 dJ6_lowestOneBit_0f7a4_0 rfl (lv_at hl 0 rfl) ?_
  refine lv_iload_n S.1 S.2.1 dJ6_lowestOneBit_0f7a4_1 rfl (lv_at hl 0 rfl) ?_
  refine lv_ineg S.1 S.2.1 dJ6_lowestOneBit_0f7a4_2 ?_
  refine lv_iand S.1 S.2.1 dJ6_lowestOneBit_0f7a4_3 ?_
  exact g_iretR S hr hlk hS rfl dJ6_lowestOneBit_0f7a4_4
