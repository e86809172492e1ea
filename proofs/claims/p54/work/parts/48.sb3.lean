/-! STRINGBUILDER: a letter, a text behind -/
theorem vp_narB {x : Int32} (h : asc x) : vp_nar .byte x = x := (asc_ok h).1
theorem fbt_upd {f : Nat → Int32} {i : Nat} {x : Int32} (h : fbt f) (hx : fits .byte (.int x) = true) : fbt (upd f i x) := fun j => by
  by_cases hj : j = i
  · subst hj
    rw [upd_eq]
    exact hx
  · rw [upd_ne hj]
    exact h j
set_option maxHeartbeats 4000000 in
theorem x_J5_append_3fe6f (l : Launch) (D : va_G) (A : Nat → Prop) (b v m n : Nat) (f : Nat → Int32) (c : Int32) (n0 : Nat) (hA : ∀ q, n0 ≤ q → A q) (hf : fbt f) (hc : asc c) (hn : n ≤ m) (hm : m < 65536) : Met l yJ5_append_3fe6f (ws_ yJ5_append_3fe6f cJ5_append_3fe6f 2 (Option.some (Jvm.ClassFile.FieldType.object "java/lang/AbstractStringBuilder"))) ({ frames := 4, cells := (capC (n + 1) m), slots := (capS (n + 1) m), locals := 110 } : Room) (gPx D A [.ref b, .int c] (sbW D b v m f n) (fun _ H => n0 ≤ H.size)) (gG A (fun V H H1 => V = some (.ref b) ∧ ∃ (v1 : Nat) (f1 : Nat → Int32), (∀ j, j < n → f1 j = f j) ∧ f1 n = c ∧ fbt f1 ∧ va_P D vwCl (sbW D b v1 (capq (n + 1) m) f1 (n + 1)) H1 ∧ va_D A (sbW D b v1 (capq (n + 1) m) f1 (n + 1)))) (capC (n + 1) m) (capS (n + 1) m) A := by
  refine g_metX [(0, .ref b), (1, .int c)] (by decide +kernel) (Nat.le_of_ble_eq_true rfl) rfl (fun pg en s mi ar below me co ls S hK hP hD hE hS hx hr hlk hnm hl => ?_)
  have h9 := capq_le (n + 1) m
  have h8 := capq_ge (n + 1) m
  refine lv_aload_n S.1 S.2.1 dJ5_append_3fe6f_0 rfl (lv_at hl 0 rfl) ?_
  refine lv_aload_n S.1 S.2.1 dJ5_append_3fe6f_1 rfl (lv_at hl 0 rfl) ?_
  refine g_get (v := .int (nI n)) (q0 := 0) S hK hP rfl rfl inJ4 3 (by decide) qw963 rfl dJ5_append_3fe6f_2 ?_
  refine lv_iconst (v := 1) S.1 S.2.1 dJ5_append_3fe6f_5 (by decide) ?_
  refine lv_iadd S.1 S.2.1 dJ5_append_3fe6f_6 ?_
  rw [nI_one]
  refine x_aft (x_U (As := [.int (nI (n + 1))]) (rest := []) S mu_J5_ensureCapacityInternal_d00df qw878 (x_J5_ensureCapacityInternal_d00df l D A b v m n f (n + 1) n0 hA hf hm (by omega)) stX_sz hK hP hD (hE.kept hS.2.1) (Nat.le_trans hx hS.1) (sb_recv hK hP) rfl rfl hl.1 (Nat.le_of_ble_eq_true rfl) rfl rfl ⟨(Nat.le_of_ble_eq_true rfl), (Nat.le_of_ble_eq_true rfl)⟩ ⟨(by show 0 + (capC (n + 1) m) ≤ (capC (n + 1) m); omega), (by show 0 + (capS (n + 1) m) ≤ (capS (n + 1) m); omega)⟩ dJ5_append_3fe6f_7) hS (fun _ h => h) (fun V H1 locs hq9 hz9 hk9 hS => ?_)
  obtain ⟨rfl, v1, f1, e1, e2, hP, hD⟩ := hq9
  refine lv_aload_n S.1 S.2.1 dJ5_append_3fe6f_10 rfl (lv_at hl 0 rfl) ?_
  refine x_aftR (st1 := [.int 1]) (x_U (As := []) (rest := []) S mu_J5_isLatin1_aae02 qw906 (x_J5_isLatin1_aae02 l D A b v1 (capq (n + 1) m) n f1) stX_t hK hP hD (hE.kept hS.2.1) trivial (sb_recv hK hP) rfl rfl hl.1 (Nat.le_of_ble_eq_true rfl) rfl rfl ⟨(Nat.le_of_ble_eq_true rfl), (Nat.le_of_ble_eq_true rfl)⟩ ⟨(by show (0 + (capC (n + 1) m)) + 0 ≤ (capC (n + 1) m); omega), (by show (0 + (capS (n + 1) m)) + 0 ≤ (capS (n + 1) m); omega)⟩ dJ5_append_3fe6f_11) hS (fun _ h => h) rfl (fun locs hS => ?_)
  refine lv_if_eq (tgt := 45) S.1 S.2.1 dJ5_append_3fe6f_14 (by decide) (fun z9 => absurd z9 (by decide)) (fun _ => ?_)
  refine lv_iload_n S.1 S.2.1 dJ5_append_3fe6f_17 rfl (lv_at hl 1 rfl) ?_
  refine x_aftR (st1 := [.int 1]) (x_St (As := [.int c]) (rest := []) S ms_J1_canEncode_fc78d qw1010 (x_J1_canEncode_fc78d l D A (sbW D b v1 (capq (n + 1) m) f1 n) c hc) stX_t hK hP hD (hE.kept hS.2.1) trivial rfl rfl hl.1 (Nat.le_of_ble_eq_true rfl) rfl rfl ⟨(Nat.le_of_ble_eq_true rfl), (Nat.le_of_ble_eq_true rfl)⟩ ⟨(by show (0 + (capC (n + 1) m)) + 0 ≤ (capC (n + 1) m); omega), (by show (0 + (capS (n + 1) m)) + 0 ≤ (capS (n + 1) m); omega)⟩ dJ5_append_3fe6f_18) hS (fun _ h => h) rfl (fun locs hS => ?_)
  refine lv_if_eq (tgt := 45) S.1 S.2.1 dJ5_append_3fe6f_21 (by decide) (fun z9 => absurd z9 (by decide)) (fun _ => ?_)
  refine lv_aload_n S.1 S.2.1 dJ5_append_3fe6f_24 rfl (lv_at hl 0 rfl) ?_
  refine g_get (v := .ref v1) (q0 := 0) S hK hP rfl rfl inJ4 0 (by decide) qw960 rfl dJ5_append_3fe6f_25 ?_
  refine lv_aload_n S.1 S.2.1 dJ5_append_3fe6f_28 rfl (lv_at hl 0 rfl) ?_
  refine lv_dup S.1 S.2.1 dJ5_append_3fe6f_29 rfl ?_
  refine g_get (v := .int (nI n)) (q0 := 0) S hK hP rfl rfl inJ4 3 (by decide) qw963 rfl dJ5_append_3fe6f_30 ?_
  refine lv_dup_x1 S.1 S.2.1 dJ5_append_3fe6f_33 rfl rfl ?_
  refine lv_iconst (v := 1) S.1 S.2.1 dJ5_append_3fe6f_34 (by decide) ?_
  refine lv_iadd S.1 S.2.1 dJ5_append_3fe6f_35 ?_
  rw [nI_one]
  refine g_put (q0 := 0) S hK hP hD hS rfl rfl inJ4 tyJ4_ok nmJ4 3 (by decide) qw963 rfl rfl rfl (Nat.le_of_ble_eq_true rfl) dJ5_append_3fe6f_36 (fun w1 H locs hw hP hD hS => ?_)
  have hw : w1 = sbW D b v1 (capq (n + 1) m) f1 (n + 1) := hw
  subst hw
  refine lv_iload_n S.1 S.2.1 dJ5_append_3fe6f_39 rfl (lv_at hl 1 rfl) ?_
  refine lv_i2b (v := c.toInt8.toInt32) S.1 S.2.1 dJ5_append_3fe6f_40 rfl ?_
  rw [(asc_ok hc).1]
  refine g_bast (q0 := 1) S hK hP hD hS rfl (vp_in_nI (by omega) (by omega)) dJ5_append_3fe6f_41 (fun w1 H locs hw hP hD hS => ?_)
  have hw : w1 = sbW D b v1 (capq (n + 1) m) (upd f1 (nI n).toNatClampNeg (vp_nar .byte c)) (n + 1) := hw
  subst hw
  refine lv_goto (tgt := 75) S.1 S.2.1 dJ5_append_3fe6f_42 (by decide) ?_
  refine lv_aload_n S.1 S.2.1 dJ5_append_3fe6f_75 rfl (lv_at hl 0 rfl) ?_
  rw [show 0 + capC (n + 1) m + 0 + 0 = capC (n + 1) m from by omega, show 0 + capS (n + 1) m + 0 + 0 = capS (n + 1) m from by omega]
  rw [nI_clamp (by omega)] at hP hD
  exact x_aret S hr hlk hS ⟨rfl, v1, _, fun j hj => (upd_ne (by omega)).trans (e1 j (by omega)), upd_eq.trans (vp_narB hc), fbt_upd e2 (by rw [vp_narB hc]; exact (asc_ok hc).2.2.2.1), hP, hD⟩ dJ5_append_3fe6f_76
set_option maxHeartbeats 4000000 in
theorem x_J4_append_cf468 (l : Launch) (D : va_G) (A : Nat → Prop) (b v m n : Nat) (f : Nat → Int32) (c : Int32) (n0 : Nat) (hA : ∀ q, n0 ≤ q → A q) (hf : fbt f) (hc : asc c) (hn : n ≤ m) (hm : m < 65536) : Met l yJ4_append_cf468 (ws_ yJ4_append_cf468 cJ4_append_cf468 2 (Option.some (Jvm.ClassFile.FieldType.object "java/lang/StringBuilder"))) ({ frames := 5, cells := (capC (n + 1) m), slots := (capS (n + 1) m), locals := 140 } : Room) (gPx D A [.ref b, .int c] (sbW D b v m f n) (fun _ H => n0 ≤ H.size)) (gG A (fun V H H1 => V = some (.ref b) ∧ ∃ (v1 : Nat) (f1 : Nat → Int32), (∀ j, j < n → f1 j = f j) ∧ f1 n = c ∧ fbt f1 ∧ va_P D vwCl (sbW D b v1 (capq (n + 1) m) f1 (n + 1)) H1 ∧ va_D A (sbW D b v1 (capq (n + 1) m) f1 (n + 1)))) (capC (n + 1) m) (capS (n + 1) m) A := by
  refine g_metX [(0, .ref b), (1, .int c)] (by decide +kernel) (Nat.le_of_ble_eq_true rfl) rfl (fun pg en s mi ar below me co ls S hK hP hD hE hS hx hr hlk hnm hl => ?_)
  refine lv_aload_n S.1 S.2.1 dJ4_append_cf468_0 rfl (lv_at hl 0 rfl) ?_
  refine lv_iload_n S.1 S.2.1 dJ4_append_cf468_1 rfl (lv_at hl 1 rfl) ?_
  refine x_aft (x_SU (As := [.int c]) (rest := []) S msu_J5_append_3fe6f qw1007 (x_J5_append_3fe6f l D A b v m n f c n0 hA hf hc hn hm) stX_sz hK hP hD (hE.kept hS.2.1) (Nat.le_trans hx hS.1) (sb_recv hK hP) rfl rfl hl.1 (Nat.le_of_ble_eq_true rfl) rfl rfl ⟨(Nat.le_of_ble_eq_true rfl), (Nat.le_of_ble_eq_true rfl)⟩ ⟨(by show 0 + (capC (n + 1) m) ≤ (capC (n + 1) m); omega), (by show 0 + (capS (n + 1) m) ≤ (capS (n + 1) m); omega)⟩ dJ4_append_cf468_2) hS (fun _ h => h) (fun V H1 locs hq9 hz9 hk9 hS => ?_)
  obtain ⟨rfl, v1, f1, e1, e2, e3, hP, hD⟩ := hq9
  refine lv_pop S.1 S.2.1 dJ4_append_cf468_5 rfl ?_
  refine lv_aload_n S.1 S.2.1 dJ4_append_cf468_6 rfl (lv_at hl 0 rfl) ?_
  rw [Nat.zero_add, Nat.zero_add]
  exact x_aret S hr hlk hS ⟨rfl, v1, f1, e1, e2, e3, hP, hD⟩ dJ4_append_cf468_7
