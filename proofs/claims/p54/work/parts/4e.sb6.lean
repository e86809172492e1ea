/-! STRINGBUILDER: its text as a String -/
set_option maxHeartbeats 4000000 in
theorem x_J7_checkLength_df160 (l : Launch) (D : va_G) (A : Nat → Prop) (w : va_W) (n : Nat) (hn : n < 65536) : Met l yJ7_checkLength_df160 (ws_ yJ7_checkLength_df160 cJ7_checkLength_df160 2 (Option.none : Option Jvm.ClassFile.FieldType)) ({ frames := 0, cells := 0, slots := 0, locals := 0 } : Room) (gPx D A [.int 0, .int (nI n)] w (fun _ _ => True)) (gR none) 0 0 A := by
  refine g_metX [(0, .int 0), (1, .int (nI n))] (by decide +kernel) (Nat.le_of_ble_eq_true rfl) rfl (fun pg en s mi ar below me co ls S hK hP hD hE hS hx hr hlk hnm hl => ?_)
  refine lv_iload_n S.1 S.2.1 dJ7_checkLength_df160_0 rfl (lv_at hl 1 rfl) ?_
  refine lv_iload_n S.1 S.2.1 dJ7_checkLength_df160_1 rfl (lv_at hl 0 rfl) ?_
  refine lv_icmp_ge (tgt := 37) S.1 S.2.1 dJ7_checkLength_df160_2 (by decide) (fun _ => ?_) (fun z9 => absurd (nI_pos' (by omega)) z9)
  exact g_vretR S hr hlk hS rfl dJ7_checkLength_df160_37
set_option maxHeartbeats 4000000 in
theorem x_J7_copyOfRangeByte_39247 (l : Launch) (D : va_G) (A : Nat → Prop) (v m n : Nat) (f : Nat → Int32) (n0 : Nat) (hA : ∀ q, n0 ≤ q → A q) (hf : fbt f) (hn : n ≤ m) (hm : m < 65536) : Met l yJ7_copyOfRangeByte_39247 (ws_ yJ7_copyOfRangeByte_39247 cJ7_copyOfRangeByte_39247 5 (Option.some (Jvm.ClassFile.FieldType.array Jvm.ClassFile.FieldType.byte))) ({ frames := 1, cells := 1, slots := n, locals := 40 } : Room) (gPx D A [.ref v, .int 0, .int (nI n)] (arW D v m f) (fun _ H => n0 ≤ H.size)) (gG A (fun V H H1 => ∃ (v1 : Nat) (f1 : Nat → Int32), V = some (.ref v1) ∧ (∀ j, j < n → f1 j = f j) ∧ va_P D vwCl [(v, .inl (D.1 101, m, .inl f)), (v1, .inl (D.1 101, n, .inl f1))] H1 ∧ va_D A [(v, .inl (D.1 101, m, .inl f)), (v1, .inl (D.1 101, n, .inl f1))])) 1 n A := by
  refine g_metX [(0, .ref v), (1, .int 0), (2, .int (nI n))] (by decide +kernel) (Nat.le_of_ble_eq_true rfl) rfl (fun pg en s mi ar below me co ls S hK hP hD hE hS hx hr hlk hnm hl => ?_)
  refine lv_iload_n S.1 S.2.1 dJ7_copyOfRangeByte_39247_0 rfl (lv_at hl 1 rfl) ?_
  refine lv_iload_n S.1 S.2.1 dJ7_copyOfRangeByte_39247_1 rfl (lv_at hl 2 rfl) ?_
  refine x_aftR (st1 := []) (x_St (As := [.int 0, .int (nI n)]) (rest := []) S ms_J7_checkLength_df160 qw1064 (x_J7_checkLength_df160 l D A (arW D v m f) n (by omega)) stX_t hK hP hD (hE.kept hS.2.1) trivial rfl rfl hl.1 (Nat.le_of_ble_eq_true rfl) rfl rfl ⟨(Nat.le_of_ble_eq_true rfl), (Nat.le_of_ble_eq_true rfl)⟩ ⟨(by show 0 + 0 ≤ 1; omega), (by show 0 + 0 ≤ n; omega)⟩ dJ7_copyOfRangeByte_39247_2) hS (fun _ h => h) rfl (fun locs hS => ?_)
  refine lv_iload_n S.1 S.2.1 dJ7_copyOfRangeByte_39247_5 rfl (lv_at hl 2 rfl) ?_
  refine lv_iload_n S.1 S.2.1 dJ7_copyOfRangeByte_39247_6 rfl (lv_at hl 1 rfl) ?_
  refine lv_isub S.1 S.2.1 dJ7_copyOfRangeByte_39247_7 ?_
  rw [show nI n - 0 = nI n from nI_sub (b := 0) (Nat.zero_le _)]
  refine lv_istore_n (lv' := [(3, .int (nI n)), (0, .ref v), (1, .int 0), (2, .int (nI n))]) S.1 S.2.1 dJ7_copyOfRangeByte_39247_8 rfl hl (by decide) rfl (fun ls hl => ?_)
  refine lv_iload_n S.1 S.2.1 dJ7_copyOfRangeByte_39247_9 rfl (lv_at hl 0 rfl) ?_
  refine g_newa (ty := .byte) (a0 := (n, .inl z0)) S hK hP hD hS (hA _ (Nat.le_trans hx hS.1)) rfl (fun C h => by cases h) qw54 1 rfl (fun _ => rfl) (nI_pos (by omega)) (nI_clamp (by omega)) (by show n * 1 ≤ 536870912; omega) (Nat.le_of_ble_eq_true rfl) (by show 0 + 0 + n ≤ n; omega) dJ7_copyOfRangeByte_39247_10 (fun H1 hz1 hP hD hS => ?_)
  refine lv_astore (lv' := [(4, .ref s.heap.size), (3, .int (nI n)), (0, .ref v), (1, .int 0), (2, .int (nI n))]) S.1 S.2.1 dJ7_copyOfRangeByte_39247_12 hl (by decide) rfl (fun ls hl => ?_)
  refine lv_aload_n S.1 S.2.1 dJ7_copyOfRangeByte_39247_14 rfl (lv_at hl 2 rfl) ?_
  refine lv_iload_n S.1 S.2.1 dJ7_copyOfRangeByte_39247_15 rfl (lv_at hl 3 rfl) ?_
  refine lv_aload S.1 S.2.1 dJ7_copyOfRangeByte_39247_16 (lv_at hl 0 rfl) ?_
  refine lv_iconst (v := 0) S.1 S.2.1 dJ7_copyOfRangeByte_39247_18 (by decide) ?_
  refine lv_aload_n S.1 S.2.1 dJ7_copyOfRangeByte_39247_19 rfl (lv_at hl 2 rfl) ?_
  refine g_alen (v := nI m) (q0 := 0) S hK hP rfl 1 rfl rfl dJ7_copyOfRangeByte_39247_20 ?_
  refine lv_iload_n S.1 S.2.1 dJ7_copyOfRangeByte_39247_21 rfl (lv_at hl 3 rfl) ?_
  refine lv_isub S.1 S.2.1 dJ7_copyOfRangeByte_39247_22 ?_
  rw [show nI m - 0 = nI m from nI_sub (b := 0) (Nat.zero_le _)]
  refine lv_iload_n S.1 S.2.1 dJ7_copyOfRangeByte_39247_23 rfl (lv_at hl 1 rfl) ?_
  refine va_mmin S.1 S.2.1 (S.2.2.1.trans hl.1.symm) S.2.2.2.1 (S.2.2.2.2 _ qw904) (S.2.2.2.2 _ qw416) (S.2.2.2.2 _ qw4) (S.2.2.2.2 _ qw417) (Nat.le_of_ble_eq_true rfl) (Nat.le_of_ble_eq_true rfl) (by show 0 + 0 + 1 ≤ 1; omega) (by show 0 + 0 + n ≤ n; omega) dJ7_copyOfRangeByte_39247_24 ?_
  rw [show (if nI n < nI m then nI n else nI m) = nI n from (by by_cases h : n < m; exact if_pos (nI_lt h (by omega)); rw [show n = m by omega]; exact if_neg (nI_nlt (Nat.le_refl _) (by omega)))]
  refine va_copyi S.1 S.2.1 (S.2.2.1.trans hl.1.symm) S.2.2.2.1 (S.2.2.2.2 _ qw905) (S.2.2.2.2 _ qw420) (S.2.2.2.2 _ qw419) (S.2.2.2.2 _ qw20) hK hP hD hS 0 1 1 1 rfl rfl rfl rfl rfl (by decide) (by decide) (nI_pos (by omega)) (by rw [nI_clamp (by omega)]; show 0 + n ≤ m; omega) (by rw [nI_clamp (by omega)]; show 0 + n ≤ n; omega) (fun i _ => hf _) (Nat.le_of_ble_eq_true rfl) (Nat.le_of_ble_eq_true rfl) dJ7_copyOfRangeByte_39247_27 (fun H2 locs2 hP hD hS => ?_)
  refine lv_aload S.1 S.2.1 dJ7_copyOfRangeByte_39247_30 (lv_at hl 0 rfl) ?_
  rw [nI_clamp (n := n) (by omega)] at hP hD
  rw [show 0 + 0 + n = n from by omega]
  exact x_baret S hr hlk hS ⟨s.heap.size, _, rfl, fun j hj => sb_cpy hj, hP, hD⟩ dJ7_copyOfRangeByte_39247_32
set_option maxHeartbeats 4000000 in
theorem x_J7_copyOfRange_39247 (l : Launch) (D : va_G) (A : Nat → Prop) (v m n : Nat) (f : Nat → Int32) (n0 : Nat) (hA : ∀ q, n0 ≤ q → A q) (hf : fbt f) (hn : n ≤ m) (hm : m < 65536) : Met l yJ7_copyOfRange_39247 (ws_ yJ7_copyOfRange_39247 cJ7_copyOfRange_39247 3 (Option.some (Jvm.ClassFile.FieldType.array Jvm.ClassFile.FieldType.byte))) ({ frames := 2, cells := 1, slots := n, locals := 70 } : Room) (gPx D A [.ref v, .int 0, .int (nI n)] (arW D v m f) (fun U H => n0 ≤ H.size ∧ CN U)) (gG A (fun V H H1 => ∃ (v1 : Nat) (f1 : Nat → Int32), V = some (.ref v1) ∧ (∀ j, j < n → f1 j = f j) ∧ va_P D vwCl [(v, .inl (D.1 101, m, .inl f)), (v1, .inl (D.1 101, n, .inl f1))] H1 ∧ va_D A [(v, .inl (D.1 101, m, .inl f)), (v1, .inl (D.1 101, n, .inl f1))])) 1 n A := by
  refine g_metX [(0, .ref v), (1, .int 0), (2, .int (nI n))] (by decide +kernel) (Nat.le_of_ble_eq_true rfl) rfl (fun pg en s mi ar below me co ls S hK hP hD hE hS hx hr hlk hnm hl => ?_)
  refine lv_iload_n S.1 S.2.1 dJ7_copyOfRange_39247_0 rfl (lv_at hl 1 rfl) ?_
  refine lv_if_ne (tgt := 10) S.1 S.2.1 dJ7_copyOfRange_39247_1 (by decide) (fun z9 => absurd (by decide) z9) (fun _ => ?_)
  refine lv_iload_n S.1 S.2.1 dJ7_copyOfRange_39247_4 rfl (lv_at hl 2 rfl) ?_
  refine lv_aload_n S.1 S.2.1 dJ7_copyOfRange_39247_5 rfl (lv_at hl 0 rfl) ?_
  refine g_alen (v := nI m) (q0 := 0) S hK hP rfl 1 rfl rfl dJ7_copyOfRange_39247_6 ?_
  refine lv_icmp_eq (tgt := 17) S.1 S.2.1 dJ7_copyOfRange_39247_7 (by decide) (fun c1 => ?_) (fun c1 => ?_)
  · have e : n = m := (nI_eq (by omega) (by omega)).mp c1
    subst e
    refine lv_aload_n S.1 S.2.1 dJ7_copyOfRange_39247_17 rfl (lv_at hl 0 rfl) ?_
    refine va_clone S.1 S.2.1 (S.2.2.1.trans hl.1.symm) S.2.2.2.1 (S.2.2.2.2 _ qw897) (S.2.2.2.2 _ qw898) (S.2.2.2.2 _ qw899) (S.2.2.2.2 _ qw900) (S.2.2.2.2 _ qw901) hx.2 hK hP hD hS (fun q hq => hA _ (Nat.le_trans hx.1 hq)) 0 1 rfl rfl (hK.2 1 _ rfl).2 (fun i v hv => fbt_eq hf n i v hv) (Nat.le_of_ble_eq_true rfl) (Nat.le_of_ble_eq_true rfl) (Nat.le_of_ble_eq_true rfl) (by show 0 + n ≤ n; omega) dJ7_copyOfRange_39247_18 (fun q H1 hK2 hP hD hS => ?_)
    refine va_castA S.1 S.2.1 S.2.2.2.1 (S.2.2.2.2 _ qw903) hP 1 rfl (hK.2 1 _ rfl).2 dJ7_copyOfRange_39247_21 ?_
    show W _ _ _ _ _ _ _ _ _ _ _ _ _ (0 + n) _ _
    rw [Nat.zero_add n]
    exact x_baret S hr hlk hS ⟨q, f, rfl, fun _ _ => rfl, hP, hD⟩ dJ7_copyOfRange_39247_24
  · refine lv_aload_n S.1 S.2.1 dJ7_copyOfRange_39247_10 rfl (lv_at hl 0 rfl) ?_
    refine lv_iload_n S.1 S.2.1 dJ7_copyOfRange_39247_11 rfl (lv_at hl 1 rfl) ?_
    refine lv_iload_n S.1 S.2.1 dJ7_copyOfRange_39247_12 rfl (lv_at hl 2 rfl) ?_
    refine x_aft (x_St (As := [.ref v, .int 0, .int (nI n)]) (rest := []) S ms_J7_copyOfRangeByte_39247 qw1061 (x_J7_copyOfRangeByte_39247 l D A v m n f n0 hA hf hn hm) stX_sz hK hP hD (hE.kept hS.2.1) (Nat.le_trans hx.1 hS.1) rfl rfl hl.1 (Nat.le_of_ble_eq_true rfl) rfl rfl ⟨(Nat.le_of_ble_eq_true rfl), (Nat.le_of_ble_eq_true rfl)⟩ ⟨(by show 0 + 1 ≤ 1; omega), (by show 0 + n ≤ n; omega)⟩ dJ7_copyOfRange_39247_13) hS (fun _ h => h) (fun V H1 locs hq9 hz9 hk9 hS => ?_)
    obtain ⟨v1, f1, rfl, e1, hP, hD⟩ := hq9
    rw [Nat.zero_add n]
    exact x_baret S hr hlk hS ⟨v1, f1, rfl, e1, hP, hD⟩ dJ7_copyOfRange_39247_16
section GBR
variable {p : Program} {l : Launch} {e : Env} {R : Room} {s : State} {m : MethodId} {args : Array Value} {below : List Frame} {meth : Method} {c : Code} {locs : List Loc} {cells slots : Nat}
variable {cc : ByteArray} {nL pc : Nat} {ls : Array Slot} {A : Nat → Prop} {own : String}
theorem x_baretR (S : CallFix p m c cc nL s args lw_all own) {ty : FieldType} (hr : meth.sig.returnType = some (.array ty)) (hlk : meth.locks = false) (hS : va_S A s.heap s.heap locs) {a : Nat} (hdg : decode cc pc = .ok (.areturn, 1)) :
    W p l e R s m args below meth c s.heap locs cells slots (MQ below (gR (some (.ref a))) args s cells slots A) (F0 m pc ls [.ref a]) :=
  W.aret S.1 S.2.1 hr (Or.inr ⟨_, rfl⟩) (Or.inr ⟨_, rfl⟩) (fun t ht _ => ⟨rfl, ht⟩) hS.2.2 hdg hlk
end GBR
set_option maxHeartbeats 4000000 in
theorem x_J5_getValue_6d5f1 (l : Launch) (D : va_G) (A : Nat → Prop) (b v m n : Nat) (f : Nat → Int32) : Met l yJ5_getValue_6d5f1 (ws_ yJ5_getValue_6d5f1 cJ5_getValue_6d5f1 1 (Option.some (Jvm.ClassFile.FieldType.array Jvm.ClassFile.FieldType.byte))) ({ frames := 0, cells := 0, slots := 0, locals := 0 } : Room) (gPx D A [.ref b] (sbW D b v m f n) (fun _ _ => True)) (gR (some (.ref v))) 0 0 A := by
  refine g_metX [(0, .ref b)] (by decide +kernel) (Nat.le_of_ble_eq_true rfl) rfl (fun pg en s mi ar below me co ls S hK hP hD hE hS hx hr hlk hnm hl => ?_)
  refine lv_aload_n S.1 S.2.1 dJ5_getValue_6d5f1_0 rfl (lv_at hl 0 rfl) ?_
  refine g_get (v := .ref v) (q0 := 0) S hK hP rfl rfl inJ4 0 (by decide) qw960 rfl dJ5_getValue_6d5f1_1 ?_
  exact x_baretR S hr hlk hS dJ5_getValue_6d5f1_4
set_option maxHeartbeats 4000000 in
theorem x_J5_length_8abf5 (l : Launch) (D : va_G) (A : Nat → Prop) (b v m n : Nat) (f : Nat → Int32) : Met l yJ5_length_8abf5 (ws_ yJ5_length_8abf5 cJ5_length_8abf5 1 (Option.some Jvm.ClassFile.FieldType.int)) ({ frames := 0, cells := 0, slots := 0, locals := 0 } : Room) (gPx D A [.ref b] (sbW D b v m f n) (fun _ _ => True)) (gR (some (.int (nI n)))) 0 0 A := by
  refine g_metX [(0, .ref b)] (by decide +kernel) (Nat.le_of_ble_eq_true rfl) rfl (fun pg en s mi ar below me co ls S hK hP hD hE hS hx hr hlk hnm hl => ?_)
  refine lv_aload_n S.1 S.2.1 dJ5_length_8abf5_0 rfl (lv_at hl 0 rfl) ?_
  refine g_get (v := .int (nI n)) (q0 := 0) S hK hP rfl rfl inJ4 3 (by decide) qw963 rfl dJ5_length_8abf5_1 ?_
  exact g_iretR S hr hlk hS rfl dJ5_length_8abf5_4
theorem msu_J5_length_8abf5 : MSu RJ4 yJ5_length_8abf5 cJ5_length_8abf5 1 (Option.some Jvm.ClassFile.FieldType.int) 0 := ⟨qw1050, qw872, qw14, qw1056, qw1051, by decide, by decide +kernel⟩
set_option maxHeartbeats 4000000 in
theorem x_J4_length_8abf5 (l : Launch) (D : va_G) (A : Nat → Prop) (b v m n : Nat) (f : Nat → Int32) : Met l yJ4_length_8abf5 (ws_ yJ4_length_8abf5 cJ4_length_8abf5 1 (Option.some Jvm.ClassFile.FieldType.int)) ({ frames := 1, cells := 0, slots := 0, locals := 22 } : Room) (gPx D A [.ref b] (sbW D b v m f n) (fun _ _ => True)) (gR (some (.int (nI n)))) 0 0 A := by
  refine g_metX [(0, .ref b)] (by decide +kernel) (Nat.le_of_ble_eq_true rfl) rfl (fun pg en s mi ar below me co ls S hK hP hD hE hS hx hr hlk hnm hl => ?_)
  refine lv_aload_n S.1 S.2.1 dJ4_length_8abf5_0 rfl (lv_at hl 0 rfl) ?_
  refine x_aftR (st1 := [.int (nI n)]) (x_SU (As := []) (rest := []) S msu_J5_length_8abf5 qw1055 (x_J5_length_8abf5 l D A b v m n f) stX_t hK hP hD (hE.kept hS.2.1) trivial (sb_recv hK hP) rfl rfl hl.1 (Nat.le_of_ble_eq_true rfl) rfl rfl ⟨(Nat.le_of_ble_eq_true rfl), (Nat.le_of_ble_eq_true rfl)⟩ ⟨(Nat.le_of_ble_eq_true rfl), (Nat.le_of_ble_eq_true rfl)⟩ dJ4_length_8abf5_1) hS (fun _ h => h) rfl (fun locs hS => ?_)
  exact g_iretR S hr hlk hS rfl dJ4_length_8abf5_4
set_option maxHeartbeats 4000000 in
theorem x_J0_init_db425 (l : Launch) (D : va_G) (A : Nat → Prop) (a b v m n : Nat) (f : Nat → Int32) (n0 : Nat) (hA : ∀ q, n0 ≤ q → A q) (hf : fbt f) (hn : n ≤ m) (hm : m < 65536) : Met l yJ0_init_db425 (ws_ yJ0_init_db425 cJ0_init_db425 5 (Option.none : Option Jvm.ClassFile.FieldType)) ({ frames := 3, cells := 1, slots := n, locals := 110 } : Room) (gPx D A [.ref a, .ref b, .null] (stn a ++ sbW D b v m f n) (fun U H => n0 ≤ H.size ∧ CN U)) (gG A (fun V H H1 => V = none ∧ ∃ (v1 : Nat) (f1 : Nat → Int32), (∀ j, j < n → f1 j = f j) ∧ va_P D vwCl (stW D a v1 n f1) H1 ∧ va_D A (stW D a v1 n f1))) 1 n A := by
  refine g_metX [(0, .ref a), (1, .ref b), (2, .null)] (by decide +kernel) (Nat.le_of_ble_eq_true rfl) rfl (fun pg en s mi ar below me co ls S hK hP hD hE hS hx hr hlk hnm hl => ?_)
  refine lv_aload_n S.1 S.2.1 dJ0_init_db425_0 rfl (lv_at hl 0 rfl) ?_
  refine n_objInit S hl.1 qw1043 qw30 qw31 dJ0_init_db425_1 (Nat.le_of_ble_eq_true rfl) (Nat.le_of_ble_eq_true rfl) ?_
  have hPs := hP.sub [1, 2] (ws' := sbW D b v m f n) rfl
  have hDs := hD.sub [1, 2] (ws' := sbW D b v m f n) (by decide) rfl
  refine lv_aload_n S.1 S.2.1 dJ0_init_db425_4 rfl (lv_at hl 1 rfl) ?_
  refine x_aftR (st1 := [.ref v]) (x_U (As := []) (rest := []) S mu_J5_getValue_6d5f1 qw1044 (x_J5_getValue_6d5f1 l D A b v m n f) stX_t hK hPs hDs (hE.kept hS.2.1) trivial (sb_recv hK hPs) rfl rfl hl.1 (Nat.le_of_ble_eq_true rfl) rfl rfl ⟨(Nat.le_of_ble_eq_true rfl), (Nat.le_of_ble_eq_true rfl)⟩ ⟨(by show 0 + 0 ≤ 1; omega), (by show 0 + 0 ≤ n; omega)⟩ dJ0_init_db425_5) hS (fun _ h => h) rfl (fun locs hS => ?_)
  refine lv_astore_n (lv' := [(3, .ref v), (0, .ref a), (1, .ref b), (2, .null)]) S.1 S.2.1 dJ0_init_db425_8 rfl hl (by decide) rfl (fun ls hl => ?_)
  refine lv_aload_n S.1 S.2.1 dJ0_init_db425_9 rfl (lv_at hl 2 rfl) ?_
  refine x_aftR (st1 := [.int (nI n)]) (x_O (As := []) (rest := []) S mo_J4_length_8abf5 qw1049 (x_J4_length_8abf5 l D A b v m n f) stX_t hK hPs hDs (hE.kept hS.2.1) trivial (sb_recv hK hPs) rfl rfl hl.1 (Nat.le_of_ble_eq_true rfl) rfl rfl ⟨(Nat.le_of_ble_eq_true rfl), (Nat.le_of_ble_eq_true rfl)⟩ ⟨(by show 0 + 0 ≤ 1; omega), (by show 0 + 0 ≤ n; omega)⟩ dJ0_init_db425_10) hS (fun _ h => h) rfl (fun locs hS => ?_)
  refine lv_istore (lv' := [(4, .int (nI n)), (3, .ref v), (0, .ref a), (1, .ref b), (2, .null)]) S.1 S.2.1 dJ0_init_db425_13 hl (by decide) rfl (fun ls hl => ?_)
  refine lv_aload_n S.1 S.2.1 dJ0_init_db425_15 rfl (lv_at hl 3 rfl) ?_
  refine x_aftR (st1 := [.int 1]) (x_U (As := []) (rest := []) S mu_J5_isLatin1_aae02 qw1057 (x_J5_isLatin1_aae02 l D A b v m n f) stX_t hK hPs hDs (hE.kept hS.2.1) trivial (sb_recv hK hPs) rfl rfl hl.1 (Nat.le_of_ble_eq_true rfl) rfl rfl ⟨(Nat.le_of_ble_eq_true rfl), (Nat.le_of_ble_eq_true rfl)⟩ ⟨(by show 0 + 0 ≤ 1; omega), (by show 0 + 0 ≤ n; omega)⟩ dJ0_init_db425_16) hS (fun _ h => h) rfl (fun locs hS => ?_)
  refine lv_if_eq (tgt := 41) S.1 S.2.1 dJ0_init_db425_19 (by decide) (fun z9 => absurd z9 (by decide)) (fun _ => ?_)
  refine lv_aload_n S.1 S.2.1 dJ0_init_db425_22 rfl (lv_at hl 2 rfl) ?_
  refine lv_iconst (v := 0) S.1 S.2.1 dJ0_init_db425_23 (by decide) ?_
  refine g_putF (q0 := 0) S (hnm.trans rfl) hK hP hD hS rfl rfl inJ0 tyJ0_ok nmJ0 1 (by decide) qw1078 rfl rfl rfl rfl (Nat.le_of_ble_eq_true rfl) dJ0_init_db425_24 (fun w1 H locs hw hP hD hS => ?_)
  have hw : w1 = (stn a ++ sbW D b v m f n) := hw
  subst hw
  refine lv_aload_n S.1 S.2.1 dJ0_init_db425_27 rfl (lv_at hl 2 rfl) ?_
  refine lv_aload_n S.1 S.2.1 dJ0_init_db425_28 rfl (lv_at hl 1 rfl) ?_
  refine lv_iconst (v := 0) S.1 S.2.1 dJ0_init_db425_29 (by decide) ?_
  refine lv_iload S.1 S.2.1 dJ0_init_db425_30 (lv_at hl 0 rfl) ?_
  have hDv : va_D (va_A (arW D v m f) H.size) (arW D v m f) := va_D.self (hD.sub [2] (by decide) rfl)
  have hfr : ∀ q, va_A (arW D v m f) H.size q → A q := va_free hD hS (fun q hq => hA _ (Nat.le_trans hx.1 hq)) [2] rfl
  have hEv : EV D (va_A (arW D v m f) H.size) s H := ((hE.kept hS.2.1).narrow (B := fun q => q = v) (fun q hq => by rw [hq]; exact hD.2 2 _ rfl)).grow.narrow (fun q hq => by
    rcases hq with ⟨k, e, h⟩ | h
    · have hk : k = 0 := by have := (List.getElem?_eq_some_iff.mp h).1; simp only [List.length_singleton] at this; omega
      subst hk
      cases h
      exact Or.inl rfl
    · exact Or.inr h)
  refine x_aft (x_St (As := [.ref v, .int 0, .int (nI n)]) (rest := [.ref a]) S ms_J7_copyOfRange_39247 qw1058 (x_J7_copyOfRange_39247 l D (va_A (arW D v m f) H.size) v m n f H.size (fun q hq => Or.inr hq) hf hn hm) (stX_and stX_sz stX_cn) hK (hP.sub [2] rfl) hDv hEv ⟨Nat.le_refl _, hx.2⟩ rfl rfl hl.1 (Nat.le_of_ble_eq_true rfl) rfl rfl ⟨(Nat.le_of_ble_eq_true rfl), (Nat.le_of_ble_eq_true rfl)⟩ ⟨(by show 0 + 0 + 0 + 0 + 1 ≤ 1; omega), (by show 0 + 0 + 0 + 0 + n ≤ n; omega)⟩ dJ0_init_db425_32) hS hfr (fun V H1 locs hq9 hz9 hk9 hS => ?_)
  obtain ⟨v1, f1, rfl, e1, hP1, hD1⟩ := hq9
  obtain ⟨hP, hD⟩ := va_join hP hD [2] [0, 1] (wr := stn a ++ [(b, .inr (13, [.ref v, .int 0, .int 0, .int (nI n)]))]) rfl rfl (by decide) (by decide) hk9 hfr hP1 hD1
  refine g_putF (q0 := 0) S (hnm.trans rfl) hK hP hD hS rfl rfl inJ0 tyJ0_ok nmJ0 0 (by decide) qw1077 rfl rfl rfl rfl (Nat.le_of_ble_eq_true rfl) dJ0_init_db425_35 (fun w1 H locs hw hP hD hS => ?_)
  subst hw
  refine lv_goto (tgt := 97) S.1 S.2.1 dJ0_init_db425_38 (by decide) ?_
  rw [show 0 + 0 + 0 + 0 + n = n from by omega]
  exact x_vret S hr hlk hS ⟨rfl, v1, f1, e1, hP.sub [0, 3] rfl, hD.sub [0, 3] (by decide) rfl⟩ dJ0_init_db425_97
