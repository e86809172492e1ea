/-! STRINGBUILDER: a number behind -/
set_option maxHeartbeats 4000000 in
theorem x_J5_append_c97b9_n (l : Launch) (D : va_G) (A : Nat → Prop) (b v m n : Nat) (f : Nat → Int32) (k : Nat) (n0 : Nat) (hA : ∀ q, n0 ≤ q → A q) (hf : fbt f) (hk : k ≤ 2 ^ 31) (hp : 0 < k) (hn0 : n ≤ m) (hm : m < 65536) : Met l yJ5_append_c97b9 (ws_ yJ5_append_c97b9 cJ5_append_c97b9 4 (Option.some (Jvm.ClassFile.FieldType.object "java/lang/AbstractStringBuilder"))) ({ frames := 4, cells := (capC (n + (sz k + 1)) m), slots := (capS (n + (sz k + 1)) m), locals := 110 } : Room) (gPx D A [.ref b, .int (mI k)] (sbW D b v m f n) (fun U H => n0 ≤ H.size ∧ DGf A U H)) (gG A (fun V H H1 => V = some (.ref b) ∧ ∃ (v1 : Nat) (f1 : Nat → Int32), (∀ j, j < n → f1 j = f j) ∧ f1 n = 45 ∧ (∀ u, u < sz k → f1 ((n + (sz k + 1)) - 1 - u) = dig k u) ∧ fbt f1 ∧ va_P D vwCl (sbW D b v1 (capq (n + (sz k + 1)) m) f1 (n + (sz k + 1))) H1 ∧ va_D A (sbW D b v1 (capq (n + (sz k + 1)) m) f1 (n + (sz k + 1))))) (capC (n + (sz k + 1)) m) (capS (n + (sz k + 1)) m) A := by
  refine g_metX [(0, .ref b), (1, .int (mI k))] (by decide +kernel) (Nat.le_of_ble_eq_true rfl) rfl (fun pg en s mi ar below me co ls S hK hP hD hE hS hx hr hlk hnm hl => ?_)
  have h9 := capq_le (n + (sz k + 1)) m
  have h8 := capq_ge (n + (sz k + 1)) m
  have h7 := sz_le k
  have h6 := sz_pos k
  refine lv_aload_n S.1 S.2.1 dJ5_append_c97b9_0 rfl (lv_at hl 0 rfl) ?_
  refine g_get (v := .int (nI n)) (q0 := 0) S hK hP rfl rfl inJ4 3 (by decide) qw963 rfl dJ5_append_c97b9_1 ?_
  refine lv_istore_n (lv' := [(2, .int (nI n)), (0, .ref b), (1, .int (mI k))]) S.1 S.2.1 dJ5_append_c97b9_4 rfl hl (by decide) rfl (fun ls hl => ?_)
  refine lv_iload_n S.1 S.2.1 dJ5_append_c97b9_5 rfl (lv_at hl 0 rfl) ?_
  refine lv_iload_n S.1 S.2.1 dJ5_append_c97b9_6 rfl (lv_at hl 2 rfl) ?_
  refine x_aftR (st1 := [.int (nI (sz k + 1)), .int (nI n)]) (x_St (As := [.int (mI k)]) (rest := [.int (nI n)]) S ms_J6_stringSize_0f7a4 qw983 (x_J6_stringSize_0f7a4 l D A (sbW D b v m f n) true k hk (fun h => by cases h) (fun _ => hp)) stX_t hK hP hD (hE.kept hS.2.1) trivial rfl rfl hl.1 (Nat.le_of_ble_eq_true rfl) rfl rfl ⟨(Nat.le_of_ble_eq_true rfl), (Nat.le_of_ble_eq_true rfl)⟩ ⟨(by show 0 + 0 ≤ (capC (n + (sz k + 1)) m); omega), (by show 0 + 0 ≤ (capS (n + (sz k + 1)) m); omega)⟩ dJ5_append_c97b9_7) hS (fun _ h => h) rfl (fun locs hS => ?_)
  refine lv_iadd S.1 S.2.1 dJ5_append_c97b9_10 ?_
  rw [nI_add]
  refine lv_istore_n (lv' := [(3, .int (nI (n + (sz k + 1)))), (2, .int (nI n)), (0, .ref b), (1, .int (mI k))]) S.1 S.2.1 dJ5_append_c97b9_11 rfl hl (by decide) rfl (fun ls hl => ?_)
  refine lv_aload_n S.1 S.2.1 dJ5_append_c97b9_12 rfl (lv_at hl 2 rfl) ?_
  refine lv_iload_n S.1 S.2.1 dJ5_append_c97b9_13 rfl (lv_at hl 0 rfl) ?_
  refine x_aft (x_U (As := [.int (nI (n + (sz k + 1)))]) (rest := []) S mu_J5_ensureCapacityInternal_d00df qw878 (x_J5_ensureCapacityInternal_d00df l D A b v m n f (n + (sz k + 1)) n0 hA hf hm (by omega)) stX_sz hK hP hD (hE.kept hS.2.1) (Nat.le_trans hx.1 hS.1) (sb_recv hK hP) rfl rfl hl.1 (Nat.le_of_ble_eq_true rfl) rfl rfl ⟨(Nat.le_of_ble_eq_true rfl), (Nat.le_of_ble_eq_true rfl)⟩ ⟨(by show 0 + (capC (n + (sz k + 1)) m) ≤ (capC (n + (sz k + 1)) m); omega), (by show 0 + (capS (n + (sz k + 1)) m) ≤ (capS (n + (sz k + 1)) m); omega)⟩ dJ5_append_c97b9_14) hS (fun _ h => h) (fun V H1 locs hq9 hz9 hk9 hS => ?_)
  obtain ⟨rfl, v1, f1, e1, e2, hP, hD⟩ := hq9
  refine lv_aload_n S.1 S.2.1 dJ5_append_c97b9_17 rfl (lv_at hl 2 rfl) ?_
  refine x_aftR (st1 := [.int 1]) (x_U (As := []) (rest := []) S mu_J5_isLatin1_aae02 qw906 (x_J5_isLatin1_aae02 l D A b v1 (capq (n + (sz k + 1)) m) n f1) stX_t hK hP hD (hE.kept hS.2.1) trivial (sb_recv hK hP) rfl rfl hl.1 (Nat.le_of_ble_eq_true rfl) rfl rfl ⟨(Nat.le_of_ble_eq_true rfl), (Nat.le_of_ble_eq_true rfl)⟩ ⟨(by show (0 + (capC (n + (sz k + 1)) m)) + 0 ≤ (capC (n + (sz k + 1)) m); omega), (by show (0 + (capS (n + (sz k + 1)) m)) + 0 ≤ (capS (n + (sz k + 1)) m); omega)⟩ dJ5_append_c97b9_18) hS (fun _ h => h) rfl (fun locs hS => ?_)
  refine lv_if_eq (tgt := 37) S.1 S.2.1 dJ5_append_c97b9_21 (by decide) (fun z9 => absurd z9 (by decide)) (fun _ => ?_)
  refine lv_iload_n S.1 S.2.1 dJ5_append_c97b9_24 rfl (lv_at hl 3 rfl) ?_
  refine lv_iload_n S.1 S.2.1 dJ5_append_c97b9_25 rfl (lv_at hl 0 rfl) ?_
  refine lv_aload_n S.1 S.2.1 dJ5_append_c97b9_26 rfl (lv_at hl 2 rfl) ?_
  refine g_get (v := .ref v1) (q0 := 0) S hK hP rfl rfl inJ4 0 (by decide) qw960 rfl dJ5_append_c97b9_27 ?_
  refine x_aft (x_St (As := [.int (mI k), .int (nI (n + (sz k + 1))), .ref v1]) (rest := []) S ms_J6_getChars_ba4f3 qw986 (x_J6_getChars_ba4f3_n l D A b v1 (capq (n + (sz k + 1)) m) n f1 k (n + (sz k + 1)) e2 hk hp (by omega) (by omega) (by omega)) stX_dg hK hP hD (hE.kept hS.2.1) (hx.2.kept hS.2.1) rfl rfl hl.1 (Nat.le_of_ble_eq_true rfl) rfl rfl ⟨(Nat.le_of_ble_eq_true rfl), (Nat.le_of_ble_eq_true rfl)⟩ ⟨(by show (0 + (capC (n + (sz k + 1)) m)) + 0 ≤ (capC (n + (sz k + 1)) m); omega), (by show (0 + (capS (n + (sz k + 1)) m)) + 0 ≤ (capS (n + (sz k + 1)) m); omega)⟩ dJ5_append_c97b9_30) hS (fun _ h => h) (fun V H1 locs hq9 hz9 hk9 hS => ?_)
  obtain ⟨rfl, f2, g1, g0, g2, g3, hP, hD⟩ := hq9
  refine lv_pop S.1 S.2.1 dJ5_append_c97b9_33 rfl ?_
  refine lv_goto (tgt := 48) S.1 S.2.1 dJ5_append_c97b9_34 (by decide) ?_
  refine lv_aload_n S.1 S.2.1 dJ5_append_c97b9_48 rfl (lv_at hl 2 rfl) ?_
  refine lv_iload_n S.1 S.2.1 dJ5_append_c97b9_49 rfl (lv_at hl 0 rfl) ?_
  refine g_put (q0 := 0) S hK hP hD hS rfl rfl inJ4 tyJ4_ok nmJ4 3 (by decide) qw963 rfl rfl rfl (Nat.le_of_ble_eq_true rfl) dJ5_append_c97b9_50 (fun w1 H locs hw hP hD hS => ?_)
  have hw : w1 = sbW D b v1 (capq (n + (sz k + 1)) m) f2 (n + (sz k + 1)) := hw
  subst hw
  refine lv_aload_n S.1 S.2.1 dJ5_append_c97b9_53 rfl (lv_at hl 2 rfl) ?_
  rw [show 0 + 0 + capC (n + (sz k + 1)) m + 0 + 0 = capC (n + (sz k + 1)) m from by omega, show 0 + 0 + capS (n + (sz k + 1)) m + 0 + 0 = capS (n + (sz k + 1)) m from by omega]
  exact x_aret S hr hlk hS ⟨rfl, v1, f2, fun j hj => (g2 j (by omega)).trans (e1 j (by omega)), by rw [show n = (n + (sz k + 1)) - 1 - sz k by omega]; exact g0, fun u hu => g1 u hu, g3, hP, hD⟩ dJ5_append_c97b9_54
set_option maxHeartbeats 4000000 in
theorem x_J4_append_bf812_n (l : Launch) (D : va_G) (A : Nat → Prop) (b v m n : Nat) (f : Nat → Int32) (k : Nat) (n0 : Nat) (hA : ∀ q, n0 ≤ q → A q) (hf : fbt f) (hk : k ≤ 2 ^ 31) (hp : 0 < k) (hn0 : n ≤ m) (hm : m < 65536) : Met l yJ4_append_bf812 (ws_ yJ4_append_bf812 cJ4_append_bf812 2 (Option.some (Jvm.ClassFile.FieldType.object "java/lang/StringBuilder"))) ({ frames := 5, cells := (capC (n + (sz k + 1)) m), slots := (capS (n + (sz k + 1)) m), locals := 140 } : Room) (gPx D A [.ref b, .int (mI k)] (sbW D b v m f n) (fun U H => n0 ≤ H.size ∧ DGf A U H)) (gG A (fun V H H1 => V = some (.ref b) ∧ ∃ (v1 : Nat) (f1 : Nat → Int32), (∀ j, j < n → f1 j = f j) ∧ f1 n = 45 ∧ (∀ u, u < sz k → f1 ((n + (sz k + 1)) - 1 - u) = dig k u) ∧ fbt f1 ∧ va_P D vwCl (sbW D b v1 (capq (n + (sz k + 1)) m) f1 (n + (sz k + 1))) H1 ∧ va_D A (sbW D b v1 (capq (n + (sz k + 1)) m) f1 (n + (sz k + 1))))) (capC (n + (sz k + 1)) m) (capS (n + (sz k + 1)) m) A := by
  refine g_metX [(0, .ref b), (1, .int (mI k))] (by decide +kernel) (Nat.le_of_ble_eq_true rfl) rfl (fun pg en s mi ar below me co ls S hK hP hD hE hS hx hr hlk hnm hl => ?_)
  refine lv_aload_n S.1 S.2.1 dJ4_append_bf812_0 rfl (lv_at hl 0 rfl) ?_
  refine lv_iload_n S.1 S.2.1 dJ4_append_bf812_1 rfl (lv_at hl 1 rfl) ?_
  refine x_aft (x_SU (As := [.int (mI k)]) (rest := []) S msu_J5_append_c97b9 qw980 (x_J5_append_c97b9_n l D A b v m n f k n0 hA hf hk hp hn0 hm) (stX_and stX_sz stX_dg) hK hP hD (hE.kept hS.2.1) ⟨Nat.le_trans hx.1 hS.1, hx.2.kept hS.2.1⟩ (sb_recv hK hP) rfl rfl hl.1 (Nat.le_of_ble_eq_true rfl) rfl rfl ⟨(Nat.le_of_ble_eq_true rfl), (Nat.le_of_ble_eq_true rfl)⟩ ⟨(by show 0 + (capC (n + (sz k + 1)) m) ≤ (capC (n + (sz k + 1)) m); omega), (by show 0 + (capS (n + (sz k + 1)) m) ≤ (capS (n + (sz k + 1)) m); omega)⟩ dJ4_append_bf812_2) hS (fun _ h => h) (fun V H1 locs hq9 hz9 hk9 hS => ?_)
  obtain ⟨rfl, v1, f1, e1, e0, e2, e3, hP, hD⟩ := hq9
  refine lv_pop S.1 S.2.1 dJ4_append_bf812_5 rfl ?_
  refine lv_aload_n S.1 S.2.1 dJ4_append_bf812_6 rfl (lv_at hl 0 rfl) ?_
  rw [Nat.zero_add, Nat.zero_add]
  exact x_aret S hr hlk hS ⟨rfl, v1, f1, e1, e0, e2, e3, hP, hD⟩ dJ4_append_bf812_7
set_option maxHeartbeats 4000000 in
theorem x_J5_append_c97b9_p (l : Launch) (D : va_G) (A : Nat → Prop) (b v m n : Nat) (f : Nat → Int32) (k : Nat) (n0 : Nat) (hA : ∀ q, n0 ≤ q → A q) (hf : fbt f) (hk : k ≤ 2 ^ 31) (hn : k < 2 ^ 31) (hn0 : n ≤ m) (hm : m < 65536) : Met l yJ5_append_c97b9 (ws_ yJ5_append_c97b9 cJ5_append_c97b9 4 (Option.some (Jvm.ClassFile.FieldType.object "java/lang/AbstractStringBuilder"))) ({ frames := 4, cells := (capC (n + (sz k + 0)) m), slots := (capS (n + (sz k + 0)) m), locals := 110 } : Room) (gPx D A [.ref b, .int (nI k)] (sbW D b v m f n) (fun U H => n0 ≤ H.size ∧ DGf A U H)) (gG A (fun V H H1 => V = some (.ref b) ∧ ∃ (v1 : Nat) (f1 : Nat → Int32), (∀ j, j < n → f1 j = f j) ∧ (∀ u, u < sz k → f1 ((n + (sz k + 0)) - 1 - u) = dig k u) ∧ fbt f1 ∧ va_P D vwCl (sbW D b v1 (capq (n + (sz k + 0)) m) f1 (n + (sz k + 0))) H1 ∧ va_D A (sbW D b v1 (capq (n + (sz k + 0)) m) f1 (n + (sz k + 0))))) (capC (n + (sz k + 0)) m) (capS (n + (sz k + 0)) m) A := by
  refine g_metX [(0, .ref b), (1, .int (nI k))] (by decide +kernel) (Nat.le_of_ble_eq_true rfl) rfl (fun pg en s mi ar below me co ls S hK hP hD hE hS hx hr hlk hnm hl => ?_)
  have h9 := capq_le (n + (sz k + 0)) m
  have h8 := capq_ge (n + (sz k + 0)) m
  have h7 := sz_le k
  have h6 := sz_pos k
  refine lv_aload_n S.1 S.2.1 dJ5_append_c97b9_0 rfl (lv_at hl 0 rfl) ?_
  refine g_get (v := .int (nI n)) (q0 := 0) S hK hP rfl rfl inJ4 3 (by decide) qw963 rfl dJ5_append_c97b9_1 ?_
  refine lv_istore_n (lv' := [(2, .int (nI n)), (0, .ref b), (1, .int (nI k))]) S.1 S.2.1 dJ5_append_c97b9_4 rfl hl (by decide) rfl (fun ls hl => ?_)
  refine lv_iload_n S.1 S.2.1 dJ5_append_c97b9_5 rfl (lv_at hl 0 rfl) ?_
  refine lv_iload_n S.1 S.2.1 dJ5_append_c97b9_6 rfl (lv_at hl 2 rfl) ?_
  refine x_aftR (st1 := [.int (nI (sz k + 0)), .int (nI n)]) (x_St (As := [.int (nI k)]) (rest := [.int (nI n)]) S ms_J6_stringSize_0f7a4 qw983 (x_J6_stringSize_0f7a4 l D A (sbW D b v m f n) false k hk (fun _ => hn) (fun h => by cases h)) stX_t hK hP hD (hE.kept hS.2.1) trivial rfl rfl hl.1 (Nat.le_of_ble_eq_true rfl) rfl rfl ⟨(Nat.le_of_ble_eq_true rfl), (Nat.le_of_ble_eq_true rfl)⟩ ⟨(by show 0 + 0 ≤ (capC (n + (sz k + 0)) m); omega), (by show 0 + 0 ≤ (capS (n + (sz k + 0)) m); omega)⟩ dJ5_append_c97b9_7) hS (fun _ h => h) rfl (fun locs hS => ?_)
  refine lv_iadd S.1 S.2.1 dJ5_append_c97b9_10 ?_
  rw [nI_add]
  refine lv_istore_n (lv' := [(3, .int (nI (n + (sz k + 0)))), (2, .int (nI n)), (0, .ref b), (1, .int (nI k))]) S.1 S.2.1 dJ5_append_c97b9_11 rfl hl (by decide) rfl (fun ls hl => ?_)
  refine lv_aload_n S.1 S.2.1 dJ5_append_c97b9_12 rfl (lv_at hl 2 rfl) ?_
  refine lv_iload_n S.1 S.2.1 dJ5_append_c97b9_13 rfl (lv_at hl 0 rfl) ?_
  refine x_aft (x_U (As := [.int (nI (n + (sz k + 0)))]) (rest := []) S mu_J5_ensureCapacityInternal_d00df qw878 (x_J5_ensureCapacityInternal_d00df l D A b v m n f (n + (sz k + 0)) n0 hA hf hm (by omega)) stX_sz hK hP hD (hE.kept hS.2.1) (Nat.le_trans hx.1 hS.1) (sb_recv hK hP) rfl rfl hl.1 (Nat.le_of_ble_eq_true rfl) rfl rfl ⟨(Nat.le_of_ble_eq_true rfl), (Nat.le_of_ble_eq_true rfl)⟩ ⟨(by show 0 + (capC (n + (sz k + 0)) m) ≤ (capC (n + (sz k + 0)) m); omega), (by show 0 + (capS (n + (sz k + 0)) m) ≤ (capS (n + (sz k + 0)) m); omega)⟩ dJ5_append_c97b9_14) hS (fun _ h => h) (fun V H1 locs hq9 hz9 hk9 hS => ?_)
  obtain ⟨rfl, v1, f1, e1, e2, hP, hD⟩ := hq9
  refine lv_aload_n S.1 S.2.1 dJ5_append_c97b9_17 rfl (lv_at hl 2 rfl) ?_
  refine x_aftR (st1 := [.int 1]) (x_U (As := []) (rest := []) S mu_J5_isLatin1_aae02 qw906 (x_J5_isLatin1_aae02 l D A b v1 (capq (n + (sz k + 0)) m) n f1) stX_t hK hP hD (hE.kept hS.2.1) trivial (sb_recv hK hP) rfl rfl hl.1 (Nat.le_of_ble_eq_true rfl) rfl rfl ⟨(Nat.le_of_ble_eq_true rfl), (Nat.le_of_ble_eq_true rfl)⟩ ⟨(by show (0 + (capC (n + (sz k + 0)) m)) + 0 ≤ (capC (n + (sz k + 0)) m); omega), (by show (0 + (capS (n + (sz k + 0)) m)) + 0 ≤ (capS (n + (sz k + 0)) m); omega)⟩ dJ5_append_c97b9_18) hS (fun _ h => h) rfl (fun locs hS => ?_)
  refine lv_if_eq (tgt := 37) S.1 S.2.1 dJ5_append_c97b9_21 (by decide) (fun z9 => absurd z9 (by decide)) (fun _ => ?_)
  refine lv_iload_n S.1 S.2.1 dJ5_append_c97b9_24 rfl (lv_at hl 3 rfl) ?_
  refine lv_iload_n S.1 S.2.1 dJ5_append_c97b9_25 rfl (lv_at hl 0 rfl) ?_
  refine lv_aload_n S.1 S.2.1 dJ5_append_c97b9_26 rfl (lv_at hl 2 rfl) ?_
  refine g_get (v := .ref v1) (q0 := 0) S hK hP rfl rfl inJ4 0 (by decide) qw960 rfl dJ5_append_c97b9_27 ?_
  refine x_aft (x_St (As := [.int (nI k), .int (nI (n + (sz k + 0))), .ref v1]) (rest := []) S ms_J6_getChars_ba4f3 qw986 (x_J6_getChars_ba4f3_p l D A b v1 (capq (n + (sz k + 0)) m) n f1 k (n + (sz k + 0)) e2 hk hn (by omega) (by omega) (by omega)) stX_dg hK hP hD (hE.kept hS.2.1) (hx.2.kept hS.2.1) rfl rfl hl.1 (Nat.le_of_ble_eq_true rfl) rfl rfl ⟨(Nat.le_of_ble_eq_true rfl), (Nat.le_of_ble_eq_true rfl)⟩ ⟨(by show (0 + (capC (n + (sz k + 0)) m)) + 0 ≤ (capC (n + (sz k + 0)) m); omega), (by show (0 + (capS (n + (sz k + 0)) m)) + 0 ≤ (capS (n + (sz k + 0)) m); omega)⟩ dJ5_append_c97b9_30) hS (fun _ h => h) (fun V H1 locs hq9 hz9 hk9 hS => ?_)
  obtain ⟨rfl, f2, g1, g2, g3, hP, hD⟩ := hq9
  refine lv_pop S.1 S.2.1 dJ5_append_c97b9_33 rfl ?_
  refine lv_goto (tgt := 48) S.1 S.2.1 dJ5_append_c97b9_34 (by decide) ?_
  refine lv_aload_n S.1 S.2.1 dJ5_append_c97b9_48 rfl (lv_at hl 2 rfl) ?_
  refine lv_iload_n S.1 S.2.1 dJ5_append_c97b9_49 rfl (lv_at hl 0 rfl) ?_
  refine g_put (q0 := 0) S hK hP hD hS rfl rfl inJ4 tyJ4_ok nmJ4 3 (by decide) qw963 rfl rfl rfl (Nat.le_of_ble_eq_true rfl) dJ5_append_c97b9_50 (fun w1 H locs hw hP hD hS => ?_)
  have hw : w1 = sbW D b v1 (capq (n + (sz k + 0)) m) f2 (n + (sz k + 0)) := hw
  subst hw
  refine lv_aload_n S.1 S.2.1 dJ5_append_c97b9_53 rfl (lv_at hl 2 rfl) ?_
  rw [show 0 + 0 + capC (n + (sz k + 0)) m + 0 + 0 = capC (n + (sz k + 0)) m from by omega, show 0 + 0 + capS (n + (sz k + 0)) m + 0 + 0 = capS (n + (sz k + 0)) m from by omega]
  exact x_aret S hr hlk hS ⟨rfl, v1, f2, fun j hj => (g2 j (by omega)).trans (e1 j (by omega)), fun u hu => g1 u hu, g3, hP, hD⟩ dJ5_append_c97b9_54
set_option maxHeartbeats 4000000 in
theorem x_J4_append_bf812_p (l : Launch) (D : va_G) (A : Nat → Prop) (b v m n : Nat) (f : Nat → Int32) (k : Nat) (n0 : Nat) (hA : ∀ q, n0 ≤ q → A q) (hf : fbt f) (hk : k ≤ 2 ^ 31) (hn : k < 2 ^ 31) (hn0 : n ≤ m) (hm : m < 65536) : Met l yJ4_append_bf812 (ws_ yJ4_append_bf812 cJ4_append_bf812 2 (Option.some (Jvm.ClassFile.FieldType.object "java/lang/StringBuilder"))) ({ frames := 5, cells := (capC (n + (sz k + 0)) m), slots := (capS (n + (sz k + 0)) m), locals := 140 } : Room) (gPx D A [.ref b, .int (nI k)] (sbW D b v m f n) (fun U H => n0 ≤ H.size ∧ DGf A U H)) (gG A (fun V H H1 => V = some (.ref b) ∧ ∃ (v1 : Nat) (f1 : Nat → Int32), (∀ j, j < n → f1 j = f j) ∧ (∀ u, u < sz k → f1 ((n + (sz k + 0)) - 1 - u) = dig k u) ∧ fbt f1 ∧ va_P D vwCl (sbW D b v1 (capq (n + (sz k + 0)) m) f1 (n + (sz k + 0))) H1 ∧ va_D A (sbW D b v1 (capq (n + (sz k + 0)) m) f1 (n + (sz k + 0))))) (capC (n + (sz k + 0)) m) (capS (n + (sz k + 0)) m) A := by
  refine g_metX [(0, .ref b), (1, .int (nI k))] (by decide +kernel) (Nat.le_of_ble_eq_true rfl) rfl (fun pg en s mi ar below me co ls S hK hP hD hE hS hx hr hlk hnm hl => ?_)
  refine lv_aload_n S.1 S.2.1 dJ4_append_bf812_0 rfl (lv_at hl 0 rfl) ?_
  refine lv_iload_n S.1 S.2.1 dJ4_append_bf812_1 rfl (lv_at hl 1 rfl) ?_
  refine x_aft (x_SU (As := [.int (nI k)]) (rest := []) S msu_J5_append_c97b9 qw980 (x_J5_append_c97b9_p l D A b v m n f k n0 hA hf hk hn hn0 hm) (stX_and stX_sz stX_dg) hK hP hD (hE.kept hS.2.1) ⟨Nat.le_trans hx.1 hS.1, hx.2.kept hS.2.1⟩ (sb_recv hK hP) rfl rfl hl.1 (Nat.le_of_ble_eq_true rfl) rfl rfl ⟨(Nat.le_of_ble_eq_true rfl), (Nat.le_of_ble_eq_true rfl)⟩ ⟨(by show 0 + (capC (n + (sz k + 0)) m) ≤ (capC (n + (sz k + 0)) m); omega), (by show 0 + (capS (n + (sz k + 0)) m) ≤ (capS (n + (sz k + 0)) m); omega)⟩ dJ4_append_bf812_2) hS (fun _ h => h) (fun V H1 locs hq9 hz9 hk9 hS => ?_)
  obtain ⟨rfl, v1, f1, e1, e2, e3, hP, hD⟩ := hq9
  refine lv_pop S.1 S.2.1 dJ4_append_bf812_5 rfl ?_
  refine lv_aload_n S.1 S.2.1 dJ4_append_bf812_6 rfl (lv_at hl 0 rfl) ?_
  rw [Nat.zero_add, Nat.zero_add]
  exact x_aret S hr hlk hS ⟨rfl, v1, f1, e1, e2, e3, hP, hD⟩ dJ4_append_bf812_7
