/-! STRINGBUILDER: capacity, appending a letter -/
set_option maxHeartbeats 4000000 in
theorem x_J5_isLatin1_aae02 (l : Launch) (D : va_G) (A : Nat → Prop) (b v m n : Nat) (f : Nat → Int32) : Met l yJ5_isLatin1_aae02 (ws_ yJ5_isLatin1_aae02 cJ5_isLatin1_aae02 1 (Option.some Jvm.ClassFile.FieldType.boolean)) ({ frames := 0, cells := 0, slots := 0, locals := 0 } : Room) (gPx D A [.ref b] (sbW D b v m f n) (fun _ _ => True)) (gR (some (.int 1))) 0 0 A := by
  refine g_metX [(0, .ref b)] (by decide +kernel) (Nat.le_of_ble_eq_true rfl) rfl (fun pg en s mi ar below me co ls S hK hP hD hE hS hx hr hlk hnm hl => ?_)
  refine va_gets S.1 S.2.1 hE.2.2.2.2.1 hS S.2.2.2.1 (S.2.2.2.2 _ qw911) (fun _ h => h) dJ5_isLatin1_aae02_0 ?_
  refine lv_if_eq (tgt := 17) S.1 S.2.1 dJ5_isLatin1_aae02_3 (by decide) (fun z9 => absurd z9 (by decide)) (fun _ => ?_)
  refine lv_aload_n S.1 S.2.1 dJ5_isLatin1_aae02_6 rfl (lv_at hl 0 rfl) ?_
  refine g_get (v := .int 0) (q0 := 0) S hK hP rfl rfl inJ4 1 (by decide) qw961 rfl dJ5_isLatin1_aae02_7 ?_
  refine lv_if_ne (tgt := 17) S.1 S.2.1 dJ5_isLatin1_aae02_10 (by decide) (fun z9 => absurd (by decide) z9) (fun _ => ?_)
  refine lv_iconst (v := 1) S.1 S.2.1 dJ5_isLatin1_aae02_13 (by decide) ?_
  refine lv_goto (tgt := 18) S.1 S.2.1 dJ5_isLatin1_aae02_14 (by decide) ?_
  exact g_nretR S hr hlk hS (by decide) rfl dJ5_isLatin1_aae02_18
set_option maxHeartbeats 4000000 in
theorem x_J1_canEncode_fc78d (l : Launch) (D : va_G) (A : Nat → Prop) (w : va_W) (x : Int32) (hc : asc x) : Met l yJ1_canEncode_fc78d (ws_ yJ1_canEncode_fc78d cJ1_canEncode_fc78d 1 (Option.some Jvm.ClassFile.FieldType.boolean)) ({ frames := 0, cells := 0, slots := 0, locals := 0 } : Room) (gPx D A [.int x] w (fun _ _ => True)) (gR (some (.int 1))) 0 0 A := by
  refine g_metX [(0, .int x)] (by decide +kernel) (Nat.le_of_ble_eq_true rfl) rfl (fun pg en s mi ar below me co ls S hK hP hD hE hS hx hr hlk hnm hl => ?_)
  refine lv_iload_n S.1 S.2.1 dJ1_canEncode_fc78d_0 rfl (lv_at hl 0 rfl) ?_
  refine lv_sipush (v := 255) S.1 S.2.1 dJ1_canEncode_fc78d_1 (by decide) ?_
  refine lv_icmp_gt (tgt := 11) S.1 S.2.1 dJ1_canEncode_fc78d_4 (by decide) (fun z9 => absurd z9 (fun (z8 : (255 : Int32) < x) => Int32.not_lt.mpr (asc_ok hc).2.2.2.2.2 z8)) (fun _ => ?_)
  refine lv_iconst (v := 1) S.1 S.2.1 dJ1_canEncode_fc78d_7 (by decide) ?_
  refine lv_goto (tgt := 12) S.1 S.2.1 dJ1_canEncode_fc78d_8 (by decide) ?_
  exact g_nretR S hr hlk hS (by decide) rfl dJ1_canEncode_fc78d_12
theorem sb_subI {a b : Nat} (ha : a < 2 ^ 30) (hb : b < 2 ^ 30) : (nI a - nI b).toInt = (a : Int) - b := by
  rw [Int32.toInt_sub, nI_toInt (by omega), nI_toInt (by omega)]
  exact Int.bmod_eq_of_le (by omega) (by omega)
set_option maxHeartbeats 4000000 in
theorem x_J5_ensureCapacityInternal_d00df (l : Launch) (D : va_G) (A : Nat → Prop) (b v m n : Nat) (f : Nat → Int32) (q n0 : Nat) (hA : ∀ q, n0 ≤ q → A q) (hf : fbt f) (hm : m < 65536) (hq2 : q < 2 ^ 25) : Met l yJ5_ensureCapacityInternal_d00df (ws_ yJ5_ensureCapacityInternal_d00df cJ5_ensureCapacityInternal_d00df 3 (Option.none : Option Jvm.ClassFile.FieldType)) ({ frames := 3, cells := (capC q m), slots := (capS q m), locals := 80 } : Room) (gPx D A [.ref b, .int (nI q)] (sbW D b v m f n) (fun _ H => n0 ≤ H.size)) (gG A (fun V H H1 => V = none ∧ ∃ (v1 : Nat) (f1 : Nat → Int32), (∀ j, j < m → f1 j = f j) ∧ fbt f1 ∧ va_P D vwCl (sbW D b v1 (capq q m) f1 n) H1 ∧ va_D A (sbW D b v1 (capq q m) f1 n))) (capC q m) (capS q m) A := by
  have h9 := capq_le q m
  have h8 := capq_ge q m
  by_cases h : q ≤ m
  · rw [show capC q m = 0 from if_pos h, show capS q m = 0 from if_pos h, show capq q m = m from if_pos h]
    refine g_metX [(0, .ref b), (1, .int (nI q))] (by decide +kernel) (Nat.le_of_ble_eq_true rfl) rfl (fun pg en s mi ar below me co ls S hK hP hD hE hS hx hr hlk hnm hl => ?_)
    refine lv_aload_n S.1 S.2.1 dJ5_ensureCapacityInternal_d00df_0 rfl (lv_at hl 0 rfl) ?_
    refine g_get (v := .ref v) (q0 := 0) S hK hP rfl rfl inJ4 0 (by decide) qw960 rfl dJ5_ensureCapacityInternal_d00df_1 ?_
    refine g_alen (v := nI m) (q0 := 1) S hK hP rfl 1 rfl rfl dJ5_ensureCapacityInternal_d00df_4 ?_
    refine lv_aload_n S.1 S.2.1 dJ5_ensureCapacityInternal_d00df_5 rfl (lv_at hl 0 rfl) ?_
    refine g_get (v := .int 0) (q0 := 0) S hK hP rfl rfl inJ4 1 (by decide) qw961 rfl dJ5_ensureCapacityInternal_d00df_6 ?_
    refine lv_ishr S.1 S.2.1 dJ5_ensureCapacityInternal_d00df_9 ?_
    rw [show ((nI m) >>> ((0 : Int32) &&& 31)) = (nI m) from shr0 _]
    refine lv_istore_n (lv' := [(2, .int (nI m)), (0, .ref b), (1, .int (nI q))]) S.1 S.2.1 dJ5_ensureCapacityInternal_d00df_10 rfl hl (by decide) rfl (fun ls hl => ?_)
    refine lv_iload_n S.1 S.2.1 dJ5_ensureCapacityInternal_d00df_11 rfl (lv_at hl 2 rfl) ?_
    refine lv_iload_n S.1 S.2.1 dJ5_ensureCapacityInternal_d00df_12 rfl (lv_at hl 0 rfl) ?_
    refine lv_isub S.1 S.2.1 dJ5_ensureCapacityInternal_d00df_13 ?_
    refine lv_if_le (tgt := 38) S.1 S.2.1 dJ5_ensureCapacityInternal_d00df_14 (by decide) (fun _ => ?_) (fun z9 => absurd (by rw [Int32.le_iff_toInt_le, sb_subI (by omega) (by omega), Int32.toInt_zero]; omega) z9)
    exact x_vret S hr hlk hS ⟨rfl, v, f, fun _ _ => rfl, hf, hP, hD⟩ dJ5_ensureCapacityInternal_d00df_38
  · rw [show capC q m = 1 from if_neg h, show capS q m = capq q m from if_neg h]
    have h7 : m < capq q m := by omega
    have e9 : (0 : Nat) + capq q m = capq q m := Nat.zero_add _
    refine g_metX [(0, .ref b), (1, .int (nI q))] (by decide +kernel) (Nat.le_of_ble_eq_true rfl) rfl (fun pg en s mi ar below me co ls S hK hP hD hE hS hx hr hlk hnm hl => ?_)
    refine lv_aload_n S.1 S.2.1 dJ5_ensureCapacityInternal_d00df_0 rfl (lv_at hl 0 rfl) ?_
    refine g_get (v := .ref v) (q0 := 0) S hK hP rfl rfl inJ4 0 (by decide) qw960 rfl dJ5_ensureCapacityInternal_d00df_1 ?_
    refine g_alen (v := nI m) (q0 := 1) S hK hP rfl 1 rfl rfl dJ5_ensureCapacityInternal_d00df_4 ?_
    refine lv_aload_n S.1 S.2.1 dJ5_ensureCapacityInternal_d00df_5 rfl (lv_at hl 0 rfl) ?_
    refine g_get (v := .int 0) (q0 := 0) S hK hP rfl rfl inJ4 1 (by decide) qw961 rfl dJ5_ensureCapacityInternal_d00df_6 ?_
    refine lv_ishr S.1 S.2.1 dJ5_ensureCapacityInternal_d00df_9 ?_
    rw [show ((nI m) >>> ((0 : Int32) &&& 31)) = (nI m) from shr0 _]
    refine lv_istore_n (lv' := [(2, .int (nI m)), (0, .ref b), (1, .int (nI q))]) S.1 S.2.1 dJ5_ensureCapacityInternal_d00df_10 rfl hl (by decide) rfl (fun ls hl => ?_)
    refine lv_iload_n S.1 S.2.1 dJ5_ensureCapacityInternal_d00df_11 rfl (lv_at hl 2 rfl) ?_
    refine lv_iload_n S.1 S.2.1 dJ5_ensureCapacityInternal_d00df_12 rfl (lv_at hl 0 rfl) ?_
    refine lv_isub S.1 S.2.1 dJ5_ensureCapacityInternal_d00df_13 ?_
    refine lv_if_le (tgt := 38) S.1 S.2.1 dJ5_ensureCapacityInternal_d00df_14 (by decide) (fun z9 => absurd z9 (by rw [Int32.le_iff_toInt_le, sb_subI (by omega) (by omega), Int32.toInt_zero]; omega)) (fun _ => ?_)
    refine lv_aload_n S.1 S.2.1 dJ5_ensureCapacityInternal_d00df_17 rfl (lv_at hl 1 rfl) ?_
    refine lv_aload_n S.1 S.2.1 dJ5_ensureCapacityInternal_d00df_18 rfl (lv_at hl 1 rfl) ?_
    refine g_get (v := .ref v) (q0 := 0) S hK hP rfl rfl inJ4 0 (by decide) qw960 rfl dJ5_ensureCapacityInternal_d00df_19 ?_
    refine lv_aload_n S.1 S.2.1 dJ5_ensureCapacityInternal_d00df_22 rfl (lv_at hl 1 rfl) ?_
    refine lv_iload_n S.1 S.2.1 dJ5_ensureCapacityInternal_d00df_23 rfl (lv_at hl 2 rfl) ?_
    refine x_aftR (st1 := .int (nI (capq q m)) :: [.ref v, .ref b]) (x_U (As := [.int (nI q)]) (rest := [.ref v, .ref b]) S mu_J5_newCapacity_0f7a4 qw882 (x_J5_newCapacity_0f7a4 l D A b v m n f q hm (by omega) (by omega)) stX_t hK hP hD (hE.kept hS.2.1) trivial (sb_recv hK hP) rfl rfl hl.1 (Nat.le_of_ble_eq_true rfl) rfl rfl ⟨(Nat.le_of_ble_eq_true rfl), (Nat.le_of_ble_eq_true rfl)⟩ ⟨(by show 0 + 0 ≤ 1; omega), (by show 0 + 0 ≤ capq q m; omega)⟩ dJ5_ensureCapacityInternal_d00df_24) hS (fun _ h => h) rfl (fun locs hS => ?_)
    refine lv_aload_n S.1 S.2.1 dJ5_ensureCapacityInternal_d00df_27 rfl (lv_at hl 1 rfl) ?_
    refine g_get (v := .int 0) (q0 := 0) S hK hP rfl rfl inJ4 1 (by decide) qw961 rfl dJ5_ensureCapacityInternal_d00df_28 ?_
    refine lv_ishl S.1 S.2.1 dJ5_ensureCapacityInternal_d00df_31 ?_
    rw [shl0]
    refine x_aft (x_St (As := [.ref v, .int (nI (capq q m))]) (rest := [.ref b]) S ms_J7_copyOf_9075b qw894 (x_J7_copyOf_9075b l D A b v m n f (capq q m) n0 hA hf hm (by omega) (by omega)) stX_sz hK hP hD (hE.kept hS.2.1) (Nat.le_trans hx hS.1) rfl rfl hl.1 (Nat.le_of_ble_eq_true rfl) rfl rfl ⟨(Nat.le_of_ble_eq_true rfl), (Nat.le_of_ble_eq_true rfl)⟩ ⟨(by show 0 + 1 ≤ 1; omega), (by show 0 + capq q m ≤ capq q m; omega)⟩ dJ5_ensureCapacityInternal_d00df_32) hS (fun _ h => h) (fun V H1 locs hq hz hk hS => ?_)
    obtain ⟨v1, f1, rfl, e1, e2, hP, hD⟩ := hq
    refine g_put (q0 := 0) S hK hP hD hS rfl rfl inJ4 tyJ4_ok nmJ4 0 (by decide) qw960 rfl rfl rfl (Nat.le_of_ble_eq_true rfl) dJ5_ensureCapacityInternal_d00df_35 (fun w1 H locs hw hP hD hS => ?_)
    subst hw
    rw [show (0 : Nat) + 0 + capq q m = capq q m from by omega]
    exact x_vret S hr hlk hS ⟨rfl, v1, f1, e1, e2, hP.sub [0, 2] rfl, hD.sub [0, 2] (by decide) rfl⟩ dJ5_ensureCapacityInternal_d00df_38
