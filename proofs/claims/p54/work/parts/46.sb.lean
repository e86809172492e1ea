/-! STRINGBUILDER: its two cells; what it holds is Latin-1 -/
abbrev sbW (D : va_G) (b v m : Nat) (f : Nat → Int32) (n : Nat) : va_W := [(b, .inr (13, [.ref v, .int 0, .int 0, .int (nI n)])), (v, .inl (D.1 101, m, .inl f))]
def fbt (f : Nat → Int32) : Prop := ∀ i, fits .byte (.int (f i)) = true
def capq (q m : Nat) : Nat := if q ≤ m then m else if q ≤ 2 * m + 2 then 2 * m + 2 else q
def capS (q m : Nat) : Nat := if q ≤ m then 0 else capq q m
def capC (q m : Nat) : Nat := if q ≤ m then 0 else 1
theorem stX_t : stX (fun _ _ => True) := fun _ _ _ _ _ => trivial
theorem shl0 (x : Int32) : x <<< ((0 : Int32) &&& 31) = x := by
  show x <<< (0 : Int32) = x
  exact Int32.shiftLeft_zero
theorem nI_sub {a b : Nat} (h : b ≤ a) : nI a - nI b = nI (a - b) := by
  obtain ⟨k, rfl⟩ : ∃ k, a = k + b := ⟨a - b, by omega⟩
  rw [Nat.add_sub_cancel, ← nI_add]
  exact Int32.add_sub_cancel _ _
theorem nI_two (m : Nat) : nI m + 2 = nI (m + 2) := nI_add m 2
theorem nI_one (m : Nat) : nI m + 1 = nI (m + 1) := nI_add m 1
theorem capq_eq {q m : Nat} (h : m < q) : m + (if q - m < m + 2 then m + 2 else q - m) = capq q m := by
  have h1 : ¬ q ≤ m := by omega
  unfold capq
  rw [if_neg h1]
  by_cases h2 : q ≤ 2 * m + 2
  · rw [if_pos h2]
    split <;> omega
  · rw [if_neg h2]
    split <;> omega
theorem capq_ge (q m : Nat) : q ≤ capq q m := by
  unfold capq
  split
  · assumption
  · split <;> omega
theorem capq_le (q m : Nat) : capq q m ≤ 2 * m + 2 + q := by
  unfold capq
  split
  · omega
  · split <;> omega
theorem sb_recv {D : va_G} {s : State} {H : Heap} {b v m n : Nat} {f : Nat → Int32} (hK : va_K D vwCl (gTys D) s) (hP : va_P D vwCl (sbW D b v m f n) H) : ∃ cell : Cell, H[b]? = some cell ∧ cell.vm.isStatics = false ∧ s.vm.findClass RJ4 = some cell.cls :=
  va_recv (q0 := 0) hK hP (rfl : vwCl[13]? = some (RJ4, TJ4, 4)) rfl
set_option maxHeartbeats 4000000 in
theorem x_J8_newLength_cabcc (l : Launch) (D : va_G) (A : Nat → Prop) (w : va_W) (m g p : Nat) (hm : m < 65536) (hg : g < 2 ^ 28) (hp : p < 2 ^ 28) (hp0 : 0 < p) : Met l yJ8_newLength_cabcc (ws_ yJ8_newLength_cabcc cJ8_newLength_cabcc 4 (Option.some Jvm.ClassFile.FieldType.int)) ({ frames := 1, cells := 0, slots := 0, locals := 24 } : Room) (gPx D A [.int (nI m), .int (nI g), .int (nI p)] w (fun _ _ => True)) (gR (some (.int (nI (m + (if g < p then p else g)))))) 0 0 A := by
  refine g_metX [(0, .int (nI m)), (1, .int (nI g)), (2, .int (nI p))] (by decide +kernel) (Nat.le_of_ble_eq_true rfl) rfl (fun pg en s mi ar below me co ls S hK hP hD hE hS hx hr hlk hnm hl => ?_)
  refine lv_iload_n S.1 S.2.1 dJ8_newLength_cabcc_0 rfl (lv_at hl 0 rfl) ?_
  refine lv_iload_n S.1 S.2.1 dJ8_newLength_cabcc_1 rfl (lv_at hl 1 rfl) ?_
  refine lv_iload_n S.1 S.2.1 dJ8_newLength_cabcc_2 rfl (lv_at hl 2 rfl) ?_
  refine va_mmax S.1 S.2.1 (S.2.2.1.trans hl.1.symm) S.2.2.2.1 (S.2.2.2.2 _ qw889) (S.2.2.2.2 _ qw45) (S.2.2.2.2 _ qw4) (S.2.2.2.2 _ qw46) (Nat.le_of_ble_eq_true rfl) (Nat.le_of_ble_eq_true rfl) (Nat.le_of_ble_eq_true rfl) (Nat.le_of_ble_eq_true rfl) dJ8_newLength_cabcc_3 ?_
  rw [show (if nI g < nI p then nI p else nI g) = nI (if g < p then p else g) from by split <;> rename_i hh <;> rw [nI_ltI (by omega) (by omega)] at hh <;> simp [hh]]
  refine lv_iadd S.1 S.2.1 dJ8_newLength_cabcc_6 ?_
  rw [show ((nI m) + (nI (if g < p then p else g))) = (nI (m + (if g < p then p else g))) from nI_add _ _]
  refine lv_istore_n (lv' := [(3, .int (nI (m + (if g < p then p else g)))), (0, .int (nI m)), (1, .int (nI g)), (2, .int (nI p))]) S.1 S.2.1 dJ8_newLength_cabcc_7 rfl hl (by decide) rfl (fun ls hl => ?_)
  refine lv_iconst (v := 0) S.1 S.2.1 dJ8_newLength_cabcc_8 (by decide) ?_
  refine lv_iload_n S.1 S.2.1 dJ8_newLength_cabcc_9 rfl (lv_at hl 0 rfl) ?_
  refine lv_icmp_ge (tgt := 21) S.1 S.2.1 dJ8_newLength_cabcc_10 (by decide) (fun z9 => absurd z9 (fun q => absurd ((nI_leI (a := (m + (if g < p then p else g))) (b := 0) (by split <;> omega) (by decide)).mp q) (by split <;> omega))) (fun _ => ?_)
  refine lv_iload_n S.1 S.2.1 dJ8_newLength_cabcc_13 rfl (lv_at hl 0 rfl) ?_
  refine lv_ldc (v := 2147483639) S.1 S.2.1 S.2.2.2.1 (S.2.2.2.2 _ qw890) dJ8_newLength_cabcc_14 ?_
  refine lv_icmp_gt (tgt := 21) S.1 S.2.1 dJ8_newLength_cabcc_16 (by decide) (fun z9 => absurd z9 (fun (q : nI 2147483639 < nI (m + (if g < p then p else g))) => absurd ((nI_ltI (a := 2147483639) (b := (m + (if g < p then p else g))) (by decide) (by split <;> omega)).mp q) (by split <;> omega))) (fun _ => ?_)
  refine lv_iload_n S.1 S.2.1 dJ8_newLength_cabcc_19 rfl (lv_at hl 0 rfl) ?_
  exact g_iretR S hr hlk hS rfl dJ8_newLength_cabcc_20
set_option maxHeartbeats 4000000 in
theorem x_J5_newCapacity_0f7a4 (l : Launch) (D : va_G) (A : Nat → Prop) (b v m n : Nat) (f : Nat → Int32) (q : Nat) (hm : m < 65536) (hq : m < q) (hq2 : q < 2 ^ 26) : Met l yJ5_newCapacity_0f7a4 (ws_ yJ5_newCapacity_0f7a4 cJ5_newCapacity_0f7a4 6 (Option.some Jvm.ClassFile.FieldType.int)) ({ frames := 2, cells := 0, slots := 0, locals := 47 } : Room) (gPx D A [.ref b, .int (nI q)] (sbW D b v m f n) (fun _ _ => True)) (gR (some (.int (nI (capq q m))))) 0 0 A := by
  refine g_metX [(0, .ref b), (1, .int (nI q))] (by decide +kernel) (Nat.le_of_ble_eq_true rfl) rfl (fun pg en s mi ar below me co ls S hK hP hD hE hS hx hr hlk hnm hl => ?_)
  have h9 := capq_le q m
  refine lv_aload_n S.1 S.2.1 dJ5_newCapacity_0f7a4_0 rfl (lv_at hl 0 rfl) ?_
  refine g_get (v := .ref v) (q0 := 0) S hK hP rfl rfl inJ4 0 (by decide) qw960 rfl dJ5_newCapacity_0f7a4_1 ?_
  refine g_alen (v := nI m) (q0 := 1) S hK hP rfl 1 rfl rfl dJ5_newCapacity_0f7a4_4 ?_
  refine lv_istore_n (lv' := [(2, .int (nI m)), (0, .ref b), (1, .int (nI q))]) S.1 S.2.1 dJ5_newCapacity_0f7a4_5 rfl hl (by decide) rfl (fun ls hl => ?_)
  refine lv_iload_n S.1 S.2.1 dJ5_newCapacity_0f7a4_6 rfl (lv_at hl 2 rfl) ?_
  refine lv_aload_n S.1 S.2.1 dJ5_newCapacity_0f7a4_7 rfl (lv_at hl 1 rfl) ?_
  refine g_get (v := .int 0) (q0 := 0) S hK hP rfl rfl inJ4 1 (by decide) qw961 rfl dJ5_newCapacity_0f7a4_8 ?_
  refine lv_ishl S.1 S.2.1 dJ5_newCapacity_0f7a4_11 ?_
  rw [show ((nI q) <<< ((0 : Int32) &&& 31)) = (nI q) from shl0 _]
  refine lv_istore_n (lv' := [(3, .int (nI q)), (2, .int (nI m)), (0, .ref b), (1, .int (nI q))]) S.1 S.2.1 dJ5_newCapacity_0f7a4_12 rfl hl (by decide) rfl (fun ls hl => ?_)
  refine lv_iload_n S.1 S.2.1 dJ5_newCapacity_0f7a4_13 rfl (lv_at hl 0 rfl) ?_
  refine lv_iload_n S.1 S.2.1 dJ5_newCapacity_0f7a4_14 rfl (lv_at hl 1 rfl) ?_
  refine lv_isub S.1 S.2.1 dJ5_newCapacity_0f7a4_15 ?_
  rw [show ((nI q) - (nI m)) = (nI (q - m)) from nI_sub (by omega)]
  refine lv_istore (lv' := [(4, .int (nI (q - m))), (3, .int (nI q)), (2, .int (nI m)), (0, .ref b), (1, .int (nI q))]) S.1 S.2.1 dJ5_newCapacity_0f7a4_16 hl (by decide) rfl (fun ls hl => ?_)
  refine lv_iload_n S.1 S.2.1 dJ5_newCapacity_0f7a4_18 rfl (lv_at hl 2 rfl) ?_
  refine lv_iload S.1 S.2.1 dJ5_newCapacity_0f7a4_19 (lv_at hl 0 rfl) ?_
  refine lv_iload_n S.1 S.2.1 dJ5_newCapacity_0f7a4_21 rfl (lv_at hl 2 rfl) ?_
  refine lv_iconst (v := 2) S.1 S.2.1 dJ5_newCapacity_0f7a4_22 (by decide) ?_
  refine lv_aload_n S.1 S.2.1 dJ5_newCapacity_0f7a4_23 rfl (lv_at hl 3 rfl) ?_
  refine g_get (v := .int 0) (q0 := 0) S hK hP rfl rfl inJ4 1 (by decide) qw961 rfl dJ5_newCapacity_0f7a4_24 ?_
  refine lv_ishl S.1 S.2.1 dJ5_newCapacity_0f7a4_27 ?_
  rw [show ((2 : Int32) <<< ((0 : Int32) &&& 31)) = 2 from by decide]
  refine lv_iadd S.1 S.2.1 dJ5_newCapacity_0f7a4_28 ?_
  rw [nI_two]
  refine x_aftR (st1 := [.int (nI (m + (if q - m < m + 2 then m + 2 else q - m)))]) (x_St (As := [.int (nI m), .int (nI (q - m)), .int (nI (m + 2))]) (rest := []) S ms_J8_newLength_cabcc qw886 (x_J8_newLength_cabcc l D A (sbW D b v m f n) m (q - m) (m + 2) hm (by omega) (by omega) (by omega)) stX_t hK hP hD (hE.kept hS.2.1) trivial rfl rfl hl.1 (Nat.le_of_ble_eq_true rfl) rfl rfl ⟨(Nat.le_of_ble_eq_true rfl), (Nat.le_of_ble_eq_true rfl)⟩ ⟨(Nat.le_of_ble_eq_true rfl), (Nat.le_of_ble_eq_true rfl)⟩ dJ5_newCapacity_0f7a4_29) hS (fun _ h => h) rfl (fun locs hS => ?_)
  rw [capq_eq hq]
  refine lv_istore (lv' := [(5, .int (nI (capq q m))), (4, .int (nI (q - m))), (3, .int (nI q)), (2, .int (nI m)), (0, .ref b), (1, .int (nI q))]) S.1 S.2.1 dJ5_newCapacity_0f7a4_32 hl (by decide) rfl (fun ls hl => ?_)
  refine lv_iload S.1 S.2.1 dJ5_newCapacity_0f7a4_34 (lv_at hl 0 rfl) ?_
  refine lv_ldc (v := 2147483647) S.1 S.2.1 S.2.2.2.1 (S.2.2.2.2 _ qw852) dJ5_newCapacity_0f7a4_36 ?_
  refine lv_icmp_ne (tgt := 51) S.1 S.2.1 dJ5_newCapacity_0f7a4_38 (by decide) (fun _ => ?_) (fun z9 => absurd z9 (fun (q9 : nI (capq q m) = nI 2147483647) => absurd ((nI_eq (by omega) (by decide)).mp q9) (by omega)))
  refine lv_iload S.1 S.2.1 dJ5_newCapacity_0f7a4_51 (lv_at hl 0 rfl) ?_
  refine lv_aload_n S.1 S.2.1 dJ5_newCapacity_0f7a4_53 rfl (lv_at hl 4 rfl) ?_
  refine g_get (v := .int 0) (q0 := 0) S hK hP rfl rfl inJ4 1 (by decide) qw961 rfl dJ5_newCapacity_0f7a4_54 ?_
  refine lv_ishr S.1 S.2.1 dJ5_newCapacity_0f7a4_57 ?_
  rw [shr0]
  exact g_iretR S hr hlk hS rfl dJ5_newCapacity_0f7a4_58
theorem sb_cpy {f : Nat → Int32} {m j : Nat} (hj : j < m) : va_cpy f z0 (0 : Int32).toNatClampNeg (0 : Int32).toNatClampNeg m j = f j := by
  unfold va_cpy
  rw [if_pos ⟨Nat.zero_le _, by show j < 0 + m; omega⟩]
  show f (0 + (j - 0)) = f j
  rw [Nat.zero_add, Nat.sub_zero]
theorem fbt_z0 : fbt z0 := fun _ => rfl
theorem sb_cpyf {f : Nat → Int32} {m : Nat} (h : fbt f) : fbt (va_cpy f z0 (0 : Int32).toNatClampNeg (0 : Int32).toNatClampNeg m) := fun i => by
  unfold va_cpy
  split
  · exact h _
  · exact fbt_z0 i
set_option maxHeartbeats 4000000 in
theorem x_J7_copyOf_9075b (l : Launch) (D : va_G) (A : Nat → Prop) (b v m n : Nat) (f : Nat → Int32) (q n0 : Nat) (hA : ∀ q, n0 ≤ q → A q) (hf : fbt f) (hm : m < 65536) (hq : m < q) (hq2 : q < 2 ^ 26) : Met l yJ7_copyOf_9075b (ws_ yJ7_copyOf_9075b cJ7_copyOf_9075b 3 (Option.some (Jvm.ClassFile.FieldType.array Jvm.ClassFile.FieldType.byte))) ({ frames := 1, cells := 1, slots := q, locals := 40 } : Room) (gPx D A [.ref v, .int (nI q)] (sbW D b v m f n) (fun _ H => n0 ≤ H.size)) (gG A (fun V H H1 => ∃ (v1 : Nat) (f1 : Nat → Int32), V = some (.ref v1) ∧ (∀ j, j < m → f1 j = f j) ∧ fbt f1 ∧ va_P D vwCl [(b, .inr (13, [.ref v, .int 0, .int 0, .int (nI n)])), (v, .inl (D.1 101, m, .inl f)), (v1, .inl (D.1 101, q, .inl f1))] H1 ∧ va_D A [(b, .inr (13, [.ref v, .int 0, .int 0, .int (nI n)])), (v, .inl (D.1 101, m, .inl f)), (v1, .inl (D.1 101, q, .inl f1))])) 1 q A := by
  refine g_metX [(0, .ref v), (1, .int (nI q))] (by decide +kernel) (Nat.le_of_ble_eq_true rfl) rfl (fun pg en s mi ar below me co ls S hK hP hD hE hS hx hr hlk hnm hl => ?_)
  refine lv_iload_n S.1 S.2.1 dJ7_copyOf_9075b_0 rfl (lv_at hl 1 rfl) ?_
  refine lv_aload_n S.1 S.2.1 dJ7_copyOf_9075b_1 rfl (lv_at hl 0 rfl) ?_
  refine g_alen (v := nI m) (q0 := 1) S hK hP rfl 1 rfl rfl dJ7_copyOf_9075b_2 ?_
  refine lv_icmp_ne (tgt := 14) S.1 S.2.1 dJ7_copyOf_9075b_3 (by decide) (fun _ => ?_) (fun z9 => absurd z9 (fun q9 => absurd ((nI_eq (by omega) (by omega)).mp q9) (by omega)))
  refine lv_iload_n S.1 S.2.1 dJ7_copyOf_9075b_14 rfl (lv_at hl 1 rfl) ?_
  refine g_newa (ty := .byte) (a0 := (q, .inl z0)) S hK hP hD hS (hA _ (Nat.le_trans hx hS.1)) rfl (fun C h => by cases h) qw54 1 rfl (fun _ => rfl) (nI_pos (by omega)) (nI_clamp (by omega)) (by show q * 1 ≤ 536870912; omega) (Nat.le_of_ble_eq_true rfl) (by show 0 + q ≤ q; omega) dJ7_copyOf_9075b_15 (fun H1 hz1 hP hD hS => ?_)
  skip
  refine lv_astore_n (lv' := [(2, .ref s.heap.size), (0, .ref v), (1, .int (nI q))]) S.1 S.2.1 dJ7_copyOf_9075b_17 rfl hl (by decide) rfl (fun ls hl => ?_)
  refine lv_aload_n S.1 S.2.1 dJ7_copyOf_9075b_18 rfl (lv_at hl 1 rfl) ?_
  refine lv_iconst (v := 0) S.1 S.2.1 dJ7_copyOf_9075b_19 (by decide) ?_
  refine lv_aload_n S.1 S.2.1 dJ7_copyOf_9075b_20 rfl (lv_at hl 0 rfl) ?_
  refine lv_iconst (v := 0) S.1 S.2.1 dJ7_copyOf_9075b_21 (by decide) ?_
  refine lv_aload_n S.1 S.2.1 dJ7_copyOf_9075b_22 rfl (lv_at hl 1 rfl) ?_
  refine g_alen (v := nI m) (q0 := 1) S hK hP rfl 1 rfl rfl dJ7_copyOf_9075b_23 ?_
  refine lv_iload_n S.1 S.2.1 dJ7_copyOf_9075b_24 rfl (lv_at hl 2 rfl) ?_
  refine va_mmin S.1 S.2.1 (S.2.2.1.trans hl.1.symm) S.2.2.2.1 (S.2.2.2.2 _ qw904) (S.2.2.2.2 _ qw416) (S.2.2.2.2 _ qw4) (S.2.2.2.2 _ qw417) (Nat.le_of_ble_eq_true rfl) (Nat.le_of_ble_eq_true rfl) (by show 0 + 1 ≤ 1; omega) (by show 0 + q ≤ q; omega) dJ7_copyOf_9075b_25 ?_
  rw [show (if nI q < nI m then nI q else nI m) = nI m from if_neg (nI_nlt (by omega) (by omega))]
  refine va_copyi S.1 S.2.1 (S.2.2.1.trans hl.1.symm) S.2.2.2.1 (S.2.2.2.2 _ qw905) (S.2.2.2.2 _ qw420) (S.2.2.2.2 _ qw419) (S.2.2.2.2 _ qw20) hK hP hD hS 1 2 1 1 rfl rfl rfl rfl rfl (by decide) (by decide) (nI_pos (by omega)) (by rw [nI_clamp (by omega)]; show 0 + m ≤ m; omega) (by rw [nI_clamp (by omega)]; show 0 + m ≤ q; omega) (fun i _ => hf _) (Nat.le_of_ble_eq_true rfl) (Nat.le_of_ble_eq_true rfl) dJ7_copyOf_9075b_28 (fun H2 locs2 hP hD hS => ?_)
  refine lv_aload_n S.1 S.2.1 dJ7_copyOf_9075b_31 rfl (lv_at hl 0 rfl) ?_
  rw [nI_clamp (n := m) (by omega)] at hP hD
  rw [Nat.zero_add, Nat.zero_add]
  exact x_baret S hr hlk hS ⟨s.heap.size, _, rfl, fun j hj => sb_cpy hj, sb_cpyf hf, hP, hD⟩ dJ7_copyOf_9075b_32
