/-! STRINGBUILDER: a text behind -/
set_option maxHeartbeats 4000000 in
theorem x_J5_inflateIfNeededFor_a7421 (l : Launch) (D : va_G) (A : Nat → Prop) (b v m n : Nat) (f : Nat → Int32) (a vs ns : Nat) (bs : Nat → Int32) : Met l yJ5_inflateIfNeededFor_a7421 (ws_ yJ5_inflateIfNeededFor_a7421 cJ5_inflateIfNeededFor_a7421 2 (Option.none : Option Jvm.ClassFile.FieldType)) ({ frames := 1, cells := 0, slots := 0, locals := 24 } : Room) (gPx D A [.ref b, .ref a] (sbW D b v m f n) (fun U H => Tx A U H a vs ns bs)) (gR none) 0 0 A := by
  refine g_metX [(0, .ref b), (1, .ref a)] (by decide +kernel) (Nat.le_of_ble_eq_true rfl) rfl (fun pg en s mi ar below me co ls S hK hP hD hE hS hT hr hlk hnm hl => ?_)
  refine va_gets S.1 S.2.1 hE.2.2.2.2.1 hS S.2.2.2.1 (S.2.2.2.2 _ qw911) (fun _ h => h) dJ5_inflateIfNeededFor_a7421_0 ?_
  refine lv_if_eq (tgt := 21) S.1 S.2.1 dJ5_inflateIfNeededFor_a7421_3 (by decide) (fun z9 => absurd z9 (by decide)) (fun _ => ?_)
  refine lv_aload_n S.1 S.2.1 dJ5_inflateIfNeededFor_a7421_6 rfl (lv_at hl 0 rfl) ?_
  refine g_get (v := .int 0) (q0 := 0) S hK hP rfl rfl inJ4 1 (by decide) qw961 rfl dJ5_inflateIfNeededFor_a7421_7 ?_
  refine lv_aload_n S.1 S.2.1 dJ5_inflateIfNeededFor_a7421_10 rfl (lv_at hl 1 rfl) ?_
  refine x_aftR (st1 := [.int 0, .int 0]) (x_V (As := []) (rest := [.int 0]) S mi_J0_coder_7d493 qw853 (x_J0_coder_7d493 l D A (sbW D b v m f n) a vs ns bs) stX_tx hK hP hD (hE.kept hS.2.1) (hT.kept hS.2.1) (hT.kept hS.2.1).recv rfl rfl hl.1 (Nat.le_of_ble_eq_true rfl) rfl rfl ⟨(Nat.le_of_ble_eq_true rfl), (Nat.le_of_ble_eq_true rfl)⟩ ⟨(Nat.le_of_ble_eq_true rfl), (Nat.le_of_ble_eq_true rfl)⟩ dJ5_inflateIfNeededFor_a7421_11) hS (fun _ h => h) rfl (fun locs hS => ?_)
  refine lv_icmp_eq (tgt := 21) S.1 S.2.1 dJ5_inflateIfNeededFor_a7421_14 (by decide) (fun _ => ?_) (fun z9 => absurd (by decide) z9)
  exact g_vretR S hr hlk hS rfl dJ5_inflateIfNeededFor_a7421_21
theorem sb_cin {f g : Nat → Int32} {n w j : Nat} (hj : j < w) : va_cpy g f (0 : Int32).toNatClampNeg n w (n + j) = g j := by
  unfold va_cpy
  rw [if_pos ⟨by omega, by omega⟩]
  show g (0 + (n + j - n)) = g j
  congr 1
  omega
theorem sb_cout {f g : Nat → Int32} {n w j : Nat} (hj : j < n) : va_cpy g f (0 : Int32).toNatClampNeg n w j = f j := by
  unfold va_cpy
  rw [if_neg (by omega)]
theorem sb_cfit {f g : Nat → Int32} {n w : Nat} (hf : fbt f) (hg : ∀ j, j < w → fits .byte (.int (g j)) = true) : fbt (va_cpy g f (0 : Int32).toNatClampNeg n w) := fun i => by
  unfold va_cpy
  split
  · rename_i h
    exact hg _ (by show 0 + (i - n) < w; omega)
  · exact hf i
set_option maxHeartbeats 4000000 in
theorem x_J0_getBytes_840e7 (l : Launch) (D : va_G) (A : Nat → Prop) (b v m n : Nat) (f : Nat → Int32) (a vs ns : Nat) (bs : Nat → Int32) (hf : fbt f) (hb : ∀ j, j < ns → fits .byte (.int (bs j)) = true) (hn : n + ns ≤ m) (hm : m < 2 ^ 26) : Met l yJ0_getBytes_840e7 (ws_ yJ0_getBytes_840e7 cJ0_getBytes_840e7 4 (Option.none : Option Jvm.ClassFile.FieldType)) ({ frames := 1, cells := 0, slots := 0, locals := 40 } : Room) (gPx D A [.ref a, .ref v, .int (nI n), .int 0] (sbW D b v m f n) (fun U H => Tx A U H a vs ns bs)) (gG A (fun V H H1 => V = none ∧ ∃ (f1 : Nat → Int32), (∀ j, j < ns → f1 (n + j) = bs j) ∧ (∀ j, j < n → f1 j = f j) ∧ fbt f1 ∧ va_P D vwCl (sbW D b v m f1 n) H1 ∧ va_D A (sbW D b v m f1 n))) 0 0 A := by
  refine g_metX [(0, .ref a), (1, .ref v), (2, .int (nI n)), (3, .int 0)] (by decide +kernel) (Nat.le_of_ble_eq_true rfl) rfl (fun pg en s mi ar below me co ls S hK hP hD hE hS hT hr hlk hnm hl => ?_)
  refine lv_aload_n S.1 S.2.1 dJ0_getBytes_840e7_0 rfl (lv_at hl 0 rfl) ?_
  refine x_aftR (st1 := [.int 0]) (x_V (As := []) (rest := []) S mi_J0_coder_7d493 qw544 (x_J0_coder_7d493 l D A (sbW D b v m f n) a vs ns bs) stX_tx hK hP hD (hE.kept hS.2.1) (hT.kept hS.2.1) (hT.kept hS.2.1).recv rfl rfl hl.1 (Nat.le_of_ble_eq_true rfl) rfl rfl ⟨(Nat.le_of_ble_eq_true rfl), (Nat.le_of_ble_eq_true rfl)⟩ ⟨(Nat.le_of_ble_eq_true rfl), (Nat.le_of_ble_eq_true rfl)⟩ dJ0_getBytes_840e7_1) hS (fun _ h => h) rfl (fun locs hS => ?_)
  refine lv_iload_n S.1 S.2.1 dJ0_getBytes_840e7_4 rfl (lv_at hl 3 rfl) ?_
  refine lv_icmp_ne (tgt := 28) S.1 S.2.1 dJ0_getBytes_840e7_5 (by decide) (fun z9 => absurd (by decide) z9) (fun _ => ?_)
  refine lv_aload_n S.1 S.2.1 dJ0_getBytes_840e7_8 rfl (lv_at hl 0 rfl) ?_
  refine vk_getf S.1 S.2.1 hT.2.2.1 hS S.2.2.2.1 (S.2.2.2.2 _ qw1077) (fun _ h => h) dJ0_getBytes_840e7_9 ?_
  refine lv_iconst (v := 0) S.1 S.2.1 dJ0_getBytes_840e7_12 (by decide) ?_
  refine lv_aload_n S.1 S.2.1 dJ0_getBytes_840e7_13 rfl (lv_at hl 1 rfl) ?_
  refine lv_iload_n S.1 S.2.1 dJ0_getBytes_840e7_14 rfl (lv_at hl 2 rfl) ?_
  refine lv_iload_n S.1 S.2.1 dJ0_getBytes_840e7_15 rfl (lv_at hl 3 rfl) ?_
  refine lv_ishl S.1 S.2.1 dJ0_getBytes_840e7_16 ?_
  refine lv_aload_n S.1 S.2.1 dJ0_getBytes_840e7_17 rfl (lv_at hl 0 rfl) ?_
  refine vk_getf S.1 S.2.1 hT.2.2.1 hS S.2.2.2.1 (S.2.2.2.2 _ qw1077) (fun _ h => h) dJ0_getBytes_840e7_18 ?_
  refine va_tlen S.1 S.2.1 hT.2.2.2 hS (v := nI ns) rfl dJ0_getBytes_840e7_21 ?_
  rw [shl0]
  refine vk_copyt S.1 S.2.1 (S.2.2.1.trans hl.1.symm) S.2.2.2.1 (S.2.2.2.2 _ qw958) (S.2.2.2.2 _ qw420) (S.2.2.2.2 _ qw419) (S.2.2.2.2 _ qw20) hK hP hD hS hT.2.2.2 1 1 rfl rfl (by decide) (nI_pos (by omega)) (nI_pos (by omega)) (by rw [nI_clamp (by omega)]; show 0 + ns ≤ ns; omega) (by rw [nI_clamp (by omega), nI_clamp (by omega)]; omega) (fun i hi => hb _ (by rw [nI_clamp (by omega)] at hi; show 0 + i < ns; omega)) (Nat.le_of_ble_eq_true rfl) (Nat.le_of_ble_eq_true rfl) dJ0_getBytes_840e7_22 (fun H2 locs2 hP hD hS => ?_)
  refine lv_goto (tgt := 43) S.1 S.2.1 dJ0_getBytes_840e7_25 (by decide) ?_
  rw [nI_clamp (by omega), nI_clamp (by omega)] at hP hD
  exact x_vret S hr hlk hS ⟨rfl, _, fun j hj => sb_cin hj, fun j hj => sb_cout hj, fun i => sb_cfit hf hb i, hP, hD⟩ dJ0_getBytes_840e7_43
set_option maxHeartbeats 4000000 in
theorem x_J5_putStringAt_47b60 (l : Launch) (D : va_G) (A : Nat → Prop) (b v m n : Nat) (f : Nat → Int32) (a vs ns : Nat) (bs : Nat → Int32) (hf : fbt f) (hb : ∀ j, j < ns → fits .byte (.int (bs j)) = true) (hn : n + ns ≤ m) (hm : m < 2 ^ 26) : Met l yJ5_putStringAt_47b60 (ws_ yJ5_putStringAt_47b60 cJ5_putStringAt_47b60 3 (Option.none : Option Jvm.ClassFile.FieldType)) ({ frames := 2, cells := 0, slots := 0, locals := 70 } : Room) (gPx D A [.ref b, .int (nI n), .ref a] (sbW D b v m f n) (fun U H => Tx A U H a vs ns bs)) (gG A (fun V H H1 => V = none ∧ ∃ (f1 : Nat → Int32), (∀ j, j < ns → f1 (n + j) = bs j) ∧ (∀ j, j < n → f1 j = f j) ∧ fbt f1 ∧ va_P D vwCl (sbW D b v m f1 n) H1 ∧ va_D A (sbW D b v m f1 n))) 0 0 A := by
  refine g_metX [(0, .ref b), (1, .int (nI n)), (2, .ref a)] (by decide +kernel) (Nat.le_of_ble_eq_true rfl) rfl (fun pg en s mi ar below me co ls S hK hP hD hE hS hT hr hlk hnm hl => ?_)
  refine lv_aload_n S.1 S.2.1 dJ5_putStringAt_47b60_0 rfl (lv_at hl 0 rfl) ?_
  refine lv_aload_n S.1 S.2.1 dJ5_putStringAt_47b60_1 rfl (lv_at hl 2 rfl) ?_
  refine x_aftR (st1 := []) (x_U (As := [.ref a]) (rest := []) S mu_J5_inflateIfNeededFor_a7421 qw931 (x_J5_inflateIfNeededFor_a7421 l D A b v m n f a vs ns bs) stX_tx hK hP hD (hE.kept hS.2.1) (hT.kept hS.2.1) (sb_recv hK hP) rfl rfl hl.1 (Nat.le_of_ble_eq_true rfl) rfl rfl ⟨(Nat.le_of_ble_eq_true rfl), (Nat.le_of_ble_eq_true rfl)⟩ ⟨(Nat.le_of_ble_eq_true rfl), (Nat.le_of_ble_eq_true rfl)⟩ dJ5_putStringAt_47b60_2) hS (fun _ h => h) rfl (fun locs hS => ?_)
  refine lv_aload_n S.1 S.2.1 dJ5_putStringAt_47b60_5 rfl (lv_at hl 2 rfl) ?_
  refine lv_aload_n S.1 S.2.1 dJ5_putStringAt_47b60_6 rfl (lv_at hl 0 rfl) ?_
  refine g_get (v := .ref v) (q0 := 0) S hK hP rfl rfl inJ4 0 (by decide) qw960 rfl dJ5_putStringAt_47b60_7 ?_
  refine lv_iload_n S.1 S.2.1 dJ5_putStringAt_47b60_10 rfl (lv_at hl 1 rfl) ?_
  refine lv_aload_n S.1 S.2.1 dJ5_putStringAt_47b60_11 rfl (lv_at hl 0 rfl) ?_
  refine g_get (v := .int 0) (q0 := 0) S hK hP rfl rfl inJ4 1 (by decide) qw961 rfl dJ5_putStringAt_47b60_12 ?_
  refine x_aft (x_V (As := [.ref v, .int (nI n), .int 0]) (rest := []) S mi_J0_getBytes_840e7 qw954 (x_J0_getBytes_840e7 l D A b v m n f a vs ns bs hf hb hn hm) stX_tx hK hP hD (hE.kept hS.2.1) (hT.kept hS.2.1) (hT.kept hS.2.1).recv rfl rfl hl.1 (Nat.le_of_ble_eq_true rfl) rfl rfl ⟨(Nat.le_of_ble_eq_true rfl), (Nat.le_of_ble_eq_true rfl)⟩ ⟨(Nat.le_of_ble_eq_true rfl), (Nat.le_of_ble_eq_true rfl)⟩ dJ5_putStringAt_47b60_15) hS (fun _ h => h) (fun V H1 locs hq9 hz9 hk9 hS => ?_)
  obtain ⟨rfl, f1, e1, e2, e3, hP, hD⟩ := hq9
  exact x_vret S hr hlk hS ⟨rfl, f1, e1, e2, e3, hP, hD⟩ dJ5_putStringAt_47b60_18
set_option maxHeartbeats 4000000 in
theorem x_J5_append_cf1ce (l : Launch) (D : va_G) (A : Nat → Prop) (b v m n : Nat) (f : Nat → Int32) (a vs ns : Nat) (bs : Nat → Int32) (n0 : Nat) (hA : ∀ q, n0 ≤ q → A q) (hf : fbt f) (hb : ∀ j, j < ns → fits .byte (.int (bs j)) = true) (hn : n ≤ m) (hm : m < 65536) (hns : ns < 65536) : Met l yJ5_append_cf1ce (ws_ yJ5_append_cf1ce cJ5_append_cf1ce 3 (Option.some (Jvm.ClassFile.FieldType.object "java/lang/AbstractStringBuilder"))) ({ frames := 4, cells := (capC (n + ns) m), slots := (capS (n + ns) m), locals := 110 } : Room) (gPx D A [.ref b, .ref a] (sbW D b v m f n) (fun U H => n0 ≤ H.size ∧ Tx A U H a vs ns bs)) (gG A (fun V H H1 => V = some (.ref b) ∧ ∃ (v1 : Nat) (f1 : Nat → Int32), (∀ j, j < n → f1 j = f j) ∧ (∀ j, j < ns → f1 (n + j) = bs j) ∧ fbt f1 ∧ va_P D vwCl (sbW D b v1 (capq (n + ns) m) f1 (n + ns)) H1 ∧ va_D A (sbW D b v1 (capq (n + ns) m) f1 (n + ns)))) (capC (n + ns) m) (capS (n + ns) m) A := by
  refine g_metX [(0, .ref b), (1, .ref a)] (by decide +kernel) (Nat.le_of_ble_eq_true rfl) rfl (fun pg en s mi ar below me co ls S hK hP hD hE hS hx hr hlk hnm hl => ?_)
  have h9 := capq_le (n + ns) m
  have h8 := capq_ge (n + ns) m
  refine lv_aload_n S.1 S.2.1 dJ5_append_cf1ce_0 rfl (lv_at hl 1 rfl) ?_
  refine lv_ifnonnull (tgt := 9) S.1 S.2.1 dJ5_append_cf1ce_1 (by decide) ?_
  refine lv_aload_n S.1 S.2.1 dJ5_append_cf1ce_9 rfl (lv_at hl 1 rfl) ?_
  refine x_aftR (st1 := [.int (nI ns)]) (x_V (As := []) (rest := []) S mi_J0_length_8abf5 qw850 (x_J0_length_8abf5 l D A (sbW D b v m f n) a vs ns bs) stX_tx hK hP hD (hE.kept hS.2.1) (hx.2.kept hS.2.1) (hx.2.kept hS.2.1).recv rfl rfl hl.1 (Nat.le_of_ble_eq_true rfl) rfl rfl ⟨(Nat.le_of_ble_eq_true rfl), (Nat.le_of_ble_eq_true rfl)⟩ ⟨(by show 0 + 0 ≤ (capC (n + ns) m); omega), (by show 0 + 0 ≤ (capS (n + ns) m); omega)⟩ dJ5_append_cf1ce_10) hS (fun _ h => h) rfl (fun locs hS => ?_)
  refine lv_istore_n (lv' := [(2, .int (nI ns)), (0, .ref b), (1, .ref a)]) S.1 S.2.1 dJ5_append_cf1ce_13 rfl hl (by decide) rfl (fun ls hl => ?_)
  refine lv_aload_n S.1 S.2.1 dJ5_append_cf1ce_14 rfl (lv_at hl 1 rfl) ?_
  refine lv_aload_n S.1 S.2.1 dJ5_append_cf1ce_15 rfl (lv_at hl 1 rfl) ?_
  refine g_get (v := .int (nI n)) (q0 := 0) S hK hP rfl rfl inJ4 3 (by decide) qw963 rfl dJ5_append_cf1ce_16 ?_
  refine lv_iload_n S.1 S.2.1 dJ5_append_cf1ce_19 rfl (lv_at hl 0 rfl) ?_
  refine lv_iadd S.1 S.2.1 dJ5_append_cf1ce_20 ?_
  rw [nI_add]
  refine x_aft (x_U (As := [.int (nI (n + ns))]) (rest := []) S mu_J5_ensureCapacityInternal_d00df qw878 (x_J5_ensureCapacityInternal_d00df l D A b v m n f (n + ns) n0 hA hf hm (by omega)) stX_sz hK hP hD (hE.kept hS.2.1) (Nat.le_trans hx.1 hS.1) (sb_recv hK hP) rfl rfl hl.1 (Nat.le_of_ble_eq_true rfl) rfl rfl ⟨(Nat.le_of_ble_eq_true rfl), (Nat.le_of_ble_eq_true rfl)⟩ ⟨(by show 0 + (capC (n + ns) m) ≤ (capC (n + ns) m); omega), (by show 0 + (capS (n + ns) m) ≤ (capS (n + ns) m); omega)⟩ dJ5_append_cf1ce_21) hS (fun _ h => h) (fun V H1 locs hq9 hz9 hk9 hS => ?_)
  obtain ⟨rfl, v1, f1, e1, e2, hP, hD⟩ := hq9
  refine lv_aload_n S.1 S.2.1 dJ5_append_cf1ce_24 rfl (lv_at hl 1 rfl) ?_
  refine lv_aload_n S.1 S.2.1 dJ5_append_cf1ce_25 rfl (lv_at hl 1 rfl) ?_
  refine g_get (v := .int (nI n)) (q0 := 0) S hK hP rfl rfl inJ4 3 (by decide) qw963 rfl dJ5_append_cf1ce_26 ?_
  refine lv_aload_n S.1 S.2.1 dJ5_append_cf1ce_29 rfl (lv_at hl 2 rfl) ?_
  refine x_aft (x_U (As := [.int (nI n), .ref a]) (rest := []) S mu_J5_putStringAt_47b60 qw927 (x_J5_putStringAt_47b60 l D A b v1 (capq (n + ns) m) n f1 a vs ns bs e2 hb (by omega) (by omega)) stX_tx hK hP hD (hE.kept hS.2.1) (hx.2.kept hS.2.1) (sb_recv hK hP) rfl rfl hl.1 (Nat.le_of_ble_eq_true rfl) rfl rfl ⟨(Nat.le_of_ble_eq_true rfl), (Nat.le_of_ble_eq_true rfl)⟩ ⟨(by show (0 + (capC (n + ns) m)) + 0 ≤ (capC (n + ns) m); omega), (by show (0 + (capS (n + ns) m)) + 0 ≤ (capS (n + ns) m); omega)⟩ dJ5_append_cf1ce_30) hS (fun _ h => h) (fun V H1 locs hq9 hz9 hk9 hS => ?_)
  obtain ⟨rfl, f2, g1, g2, g3, hP, hD⟩ := hq9
  refine lv_aload_n S.1 S.2.1 dJ5_append_cf1ce_33 rfl (lv_at hl 1 rfl) ?_
  refine lv_dup S.1 S.2.1 dJ5_append_cf1ce_34 rfl ?_
  refine g_get (v := .int (nI n)) (q0 := 0) S hK hP rfl rfl inJ4 3 (by decide) qw963 rfl dJ5_append_cf1ce_35 ?_
  refine lv_iload_n S.1 S.2.1 dJ5_append_cf1ce_38 rfl (lv_at hl 0 rfl) ?_
  refine lv_iadd S.1 S.2.1 dJ5_append_cf1ce_39 ?_
  rw [nI_add]
  refine g_put (q0 := 0) S hK hP hD hS rfl rfl inJ4 tyJ4_ok nmJ4 3 (by decide) qw963 rfl rfl rfl (Nat.le_of_ble_eq_true rfl) dJ5_append_cf1ce_40 (fun w1 H locs hw hP hD hS => ?_)
  have hw : w1 = sbW D b v1 (capq (n + ns) m) f2 (n + ns) := hw
  subst hw
  refine lv_aload_n S.1 S.2.1 dJ5_append_cf1ce_43 rfl (lv_at hl 1 rfl) ?_
  rw [show 0 + 0 + capC (n + ns) m + 0 = capC (n + ns) m from by omega, show 0 + 0 + capS (n + ns) m + 0 = capS (n + ns) m from by omega]
  exact x_aret S hr hlk hS ⟨rfl, v1, f2, fun j hj => (g2 j hj).trans (e1 j (by omega)), g1, g3, hP, hD⟩ dJ5_append_cf1ce_44
set_option maxHeartbeats 4000000 in
theorem x_J4_append_15ec4 (l : Launch) (D : va_G) (A : Nat → Prop) (b v m n : Nat) (f : Nat → Int32) (a vs ns : Nat) (bs : Nat → Int32) (n0 : Nat) (hA : ∀ q, n0 ≤ q → A q) (hf : fbt f) (hb : ∀ j, j < ns → fits .byte (.int (bs j)) = true) (hn : n ≤ m) (hm : m < 65536) (hns : ns < 65536) : Met l yJ4_append_15ec4 (ws_ yJ4_append_15ec4 cJ4_append_15ec4 2 (Option.some (Jvm.ClassFile.FieldType.object "java/lang/StringBuilder"))) ({ frames := 5, cells := (capC (n + ns) m), slots := (capS (n + ns) m), locals := 140 } : Room) (gPx D A [.ref b, .ref a] (sbW D b v m f n) (fun U H => n0 ≤ H.size ∧ Tx A U H a vs ns bs)) (gG A (fun V H H1 => V = some (.ref b) ∧ ∃ (v1 : Nat) (f1 : Nat → Int32), (∀ j, j < n → f1 j = f j) ∧ (∀ j, j < ns → f1 (n + j) = bs j) ∧ fbt f1 ∧ va_P D vwCl (sbW D b v1 (capq (n + ns) m) f1 (n + ns)) H1 ∧ va_D A (sbW D b v1 (capq (n + ns) m) f1 (n + ns)))) (capC (n + ns) m) (capS (n + ns) m) A := by
  refine g_metX [(0, .ref b), (1, .ref a)] (by decide +kernel) (Nat.le_of_ble_eq_true rfl) rfl (fun pg en s mi ar below me co ls S hK hP hD hE hS hx hr hlk hnm hl => ?_)
  refine lv_aload_n S.1 S.2.1 dJ4_append_15ec4_0 rfl (lv_at hl 0 rfl) ?_
  refine lv_aload_n S.1 S.2.1 dJ4_append_15ec4_1 rfl (lv_at hl 1 rfl) ?_
  refine x_aft (x_SU (As := [.ref a]) (rest := []) S msu_J5_append_cf1ce qw871 (x_J5_append_cf1ce l D A b v m n f a vs ns bs n0 hA hf hb hn hm hns) (stX_and stX_sz stX_tx) hK hP hD (hE.kept hS.2.1) ⟨Nat.le_trans hx.1 hS.1, hx.2.kept hS.2.1⟩ (sb_recv hK hP) rfl rfl hl.1 (Nat.le_of_ble_eq_true rfl) rfl rfl ⟨(Nat.le_of_ble_eq_true rfl), (Nat.le_of_ble_eq_true rfl)⟩ ⟨(by show 0 + (capC (n + ns) m) ≤ (capC (n + ns) m); omega), (by show 0 + (capS (n + ns) m) ≤ (capS (n + ns) m); omega)⟩ dJ4_append_15ec4_2) hS (fun _ h => h) (fun V H1 locs hq9 hz9 hk9 hS => ?_)
  obtain ⟨rfl, v1, f1, e1, e2, e3, hP, hD⟩ := hq9
  refine lv_pop S.1 S.2.1 dJ4_append_15ec4_5 rfl ?_
  refine lv_aload_n S.1 S.2.1 dJ4_append_15ec4_6 rfl (lv_at hl 0 rfl) ?_
  rw [Nat.zero_add, Nat.zero_add]
  exact x_aret S hr hlk hS ⟨rfl, v1, f1, e1, e2, e3, hP, hD⟩ dJ4_append_15ec4_7
set_option maxHeartbeats 4000000 in
theorem x_J4_append_cf1ce (l : Launch) (D : va_G) (A : Nat → Prop) (b v m n : Nat) (f : Nat → Int32) (a vs ns : Nat) (bs : Nat → Int32) (n0 : Nat) (hA : ∀ q, n0 ≤ q → A q) (hf : fbt f) (hb : ∀ j, j < ns → fits .byte (.int (bs j)) = true) (hn : n ≤ m) (hm : m < 65536) (hns : ns < 65536) : Met l yJ4_append_cf1ce (ws_ yJ4_append_cf1ce cJ4_append_cf1ce 2 (Option.some (Jvm.ClassFile.FieldType.object "java/lang/AbstractStringBuilder"))) ({ frames := 6, cells := (capC (n + ns) m), slots := (capS (n + ns) m), locals := 170 } : Room) (gPx D A [.ref b, .ref a] (sbW D b v m f n) (fun U H => n0 ≤ H.size ∧ Tx A U H a vs ns bs)) (gG A (fun V H H1 => V = some (.ref b) ∧ ∃ (v1 : Nat) (f1 : Nat → Int32), (∀ j, j < n → f1 j = f j) ∧ (∀ j, j < ns → f1 (n + j) = bs j) ∧ fbt f1 ∧ va_P D vwCl (sbW D b v1 (capq (n + ns) m) f1 (n + ns)) H1 ∧ va_D A (sbW D b v1 (capq (n + ns) m) f1 (n + ns)))) (capC (n + ns) m) (capS (n + ns) m) A := by
  refine g_metX [(0, .ref b), (1, .ref a)] (by decide +kernel) (Nat.le_of_ble_eq_true rfl) rfl (fun pg en s mi ar below me co ls S hK hP hD hE hS hx hr hlk hnm hl => ?_)
  refine lv_aload_n S.1 S.2.1 dJ4_append_cf1ce_0 rfl (lv_at hl 0 rfl) ?_
  refine lv_aload_n S.1 S.2.1 dJ4_append_cf1ce_1 rfl (lv_at hl 1 rfl) ?_
  refine x_aft (x_V (As := [.ref a]) (rest := []) S mi_J4_append_15ec4 qw867 (x_J4_append_15ec4 l D A b v m n f a vs ns bs n0 hA hf hb hn hm hns) (stX_and stX_sz stX_tx) hK hP hD (hE.kept hS.2.1) ⟨Nat.le_trans hx.1 hS.1, hx.2.kept hS.2.1⟩ (sb_recv hK hP) rfl rfl hl.1 (Nat.le_of_ble_eq_true rfl) rfl rfl ⟨(Nat.le_of_ble_eq_true rfl), (Nat.le_of_ble_eq_true rfl)⟩ ⟨(by show 0 + (capC (n + ns) m) ≤ (capC (n + ns) m); omega), (by show 0 + (capS (n + ns) m) ≤ (capS (n + ns) m); omega)⟩ dJ4_append_cf1ce_2) hS (fun _ h => h) (fun V H1 locs hq9 hz9 hk9 hS => ?_)
  obtain ⟨rfl, v1, f1, e1, e2, e3, hP, hD⟩ := hq9
  rw [Nat.zero_add, Nat.zero_add]
  exact x_aret S hr hlk hS ⟨rfl, v1, f1, e1, e2, e3, hP, hD⟩ dJ4_append_cf1ce_5
