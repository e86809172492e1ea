/-! STRINGBUILDER: made; its text as a String -/
def CN (U : State) : Prop := va_Nw (.castable "[B" "java/lang/Cloneable") U
theorem stX_cn : stX (fun U _ => CN U) := fun u U H hv h => va_tabs rfl (rfl : (u.setVm U.vm).vm = U.vm) (by rw [Cond.castable_setVm hv]; exact h)
abbrev sb0 (b : Nat) : va_W := [(b, .inr (13, [.null, .int 0, .int 0, .int 0]))]
abbrev stn (a : Nat) : va_W := [(a, .inr (12, [.null, .int 0, .int 0, .int 0]))]
abbrev stW (D : va_G) (a v n : Nat) (f : Nat → Int32) : va_W := [(a, .inr (12, [.ref v, .int 0, .int 0, .int 0])), (v, .inl (D.1 101, n, .inl f))]
abbrev arW (D : va_G) (v m : Nat) (f : Nat → Int32) : va_W := [(v, .inl (D.1 101, m, .inl f))]
theorem fbt_eq {f : Nat → Int32} (h : fbt f) (n : Nat) : ∀ (i : Nat) (v : Value), (vp_cell (0 : Nat) (n, .inl f)).slots[i]? = some v → fits .byte v = true := by
  intro i v hv
  have h1 : i < n := by have := (Array.getElem?_eq_some_iff.mp hv).1; rw [show (vp_cell (0 : Nat) (n, .inl f)) = arrV 0 n (fun j => .int (f j)) from rfl, arrV_size] at this; exact this
  rw [show (vp_cell (0 : Nat) (n, .inl f)) = arrV 0 n (fun j => .int (f j)) from rfl, arrV_read _ _ h1] at hv
  cases hv
  exact h i
set_option maxHeartbeats 4000000 in
theorem x_J5_init_d00df (l : Launch) (D : va_G) (A : Nat → Prop) (b n0 : Nat) (hA : ∀ q, n0 ≤ q → A q) : Met l yJ5_init_d00df (ws_ yJ5_init_d00df cJ5_init_d00df 2 (Option.none : Option Jvm.ClassFile.FieldType)) ({ frames := 1, cells := 1, slots := 16, locals := 24 } : Room) (gPx D A [.ref b, .int 16] (sb0 b) (fun _ H => n0 ≤ H.size)) (gG A (fun V H H1 => V = none ∧ ∃ v1 : Nat, va_P D vwCl (sbW D b v1 16 z0 0) H1 ∧ va_D A (sbW D b v1 16 z0 0))) 1 16 A := by
  refine g_metX [(0, .ref b), (1, .int 16)] (by decide +kernel) (Nat.le_of_ble_eq_true rfl) rfl (fun pg en s mi ar below me co ls S hK hP hD hE hS hx hr hlk hnm hl => ?_)
  refine lv_aload_n S.1 S.2.1 dJ5_init_d00df_0 rfl (lv_at hl 0 rfl) ?_
  refine n_objInit S hl.1 qw849 qw30 qw31 dJ5_init_d00df_1 (Nat.le_of_ble_eq_true rfl) (Nat.le_of_ble_eq_true rfl) ?_
  refine va_gets S.1 S.2.1 hE.2.2.2.2.1 hS S.2.2.2.1 (S.2.2.2.2 _ qw911) (fun _ h => h) dJ5_init_d00df_4 ?_
  refine lv_if_eq (tgt := 25) S.1 S.2.1 dJ5_init_d00df_7 (by decide) (fun z9 => absurd z9 (by decide)) (fun _ => ?_)
  refine lv_aload_n S.1 S.2.1 dJ5_init_d00df_10 rfl (lv_at hl 0 rfl) ?_
  refine lv_iload_n S.1 S.2.1 dJ5_init_d00df_11 rfl (lv_at hl 1 rfl) ?_
  refine g_newa (ty := .byte) (a0 := (16, .inl z0)) S hK hP hD hS (hA _ (Nat.le_trans hx hS.1)) rfl (fun C h => by cases h) qw54 1 rfl (fun _ => rfl) (by decide) (by decide) (Nat.le_of_ble_eq_true rfl) (Nat.le_of_ble_eq_true rfl) (Nat.le_of_ble_eq_true rfl) dJ5_init_d00df_12 (fun H1 hz1 hP hD hS => ?_)
  refine g_put (q0 := 0) S hK hP hD hS rfl rfl inJ4 tyJ4_ok nmJ4 0 (by decide) qw960 rfl rfl rfl (Nat.le_of_ble_eq_true rfl) dJ5_init_d00df_14 (fun w1 H locs hw hP hD hS => ?_)
  have hw : w1 = sbW D b s.heap.size 16 z0 0 := hw
  subst hw
  refine lv_aload_n S.1 S.2.1 dJ5_init_d00df_17 rfl (lv_at hl 0 rfl) ?_
  refine lv_iconst (v := 0) S.1 S.2.1 dJ5_init_d00df_18 (by decide) ?_
  refine g_put (q0 := 0) S hK hP hD hS rfl rfl inJ4 tyJ4_ok nmJ4 1 (by decide) qw961 rfl rfl rfl (Nat.le_of_ble_eq_true rfl) dJ5_init_d00df_19 (fun w1 H locs hw hP hD hS => ?_)
  have hw : w1 = sbW D b s.heap.size 16 z0 0 := hw
  subst hw
  refine lv_goto (tgt := 38) S.1 S.2.1 dJ5_init_d00df_22 (by decide) ?_
  exact x_vret S hr hlk hS ⟨rfl, s.heap.size, hP, hD⟩ dJ5_init_d00df_38
set_option maxHeartbeats 4000000 in
theorem x_J4_init_da8c8 (l : Launch) (D : va_G) (A : Nat → Prop) (b n0 : Nat) (hA : ∀ q, n0 ≤ q → A q) : Met l yJ4_init_da8c8 (ws_ yJ4_init_da8c8 cJ4_init_da8c8 1 (Option.none : Option Jvm.ClassFile.FieldType)) ({ frames := 2, cells := 1, slots := 16, locals := 48 } : Room) (gPx D A [.ref b] (sb0 b) (fun _ H => n0 ≤ H.size)) (gG A (fun V H H1 => V = none ∧ ∃ v1 : Nat, va_P D vwCl (sbW D b v1 16 z0 0) H1 ∧ va_D A (sbW D b v1 16 z0 0))) 1 16 A := by
  refine g_metX [(0, .ref b)] (by decide +kernel) (Nat.le_of_ble_eq_true rfl) rfl (fun pg en s mi ar below me co ls S hK hP hD hE hS hx hr hlk hnm hl => ?_)
  refine lv_aload_n S.1 S.2.1 dJ4_init_da8c8_0 rfl (lv_at hl 0 rfl) ?_
  refine lv_bipush (v := 16) S.1 S.2.1 dJ4_init_da8c8_1 (by decide) ?_
  refine x_aft (x_I (As := [.int 16]) (rest := []) S mc_J5_init_d00df qw1027 (x_J5_init_d00df l D A b n0 hA) stX_sz hK hP hD (hE.kept hS.2.1) (Nat.le_trans hx hS.1)  rfl rfl hl.1 (Nat.le_of_ble_eq_true rfl) rfl rfl ⟨(Nat.le_of_ble_eq_true rfl), (Nat.le_of_ble_eq_true rfl)⟩ ⟨(by show 0 + 1 ≤ 1; omega), (by show 0 + 16 ≤ 16; omega)⟩ dJ4_init_da8c8_3) hS (fun _ h => h) (fun V H1 locs hq9 hz9 hk9 hS => ?_)
  obtain ⟨rfl, v1, hP, hD⟩ := hq9
  exact x_vret S hr hlk hS ⟨rfl, v1, hP, hD⟩ dJ4_init_da8c8_6
set_option maxHeartbeats 4000000 in
theorem x_J5_init_a7421 (l : Launch) (D : va_G) (A : Nat → Prop) (b : Nat) (a vs ns : Nat) (bs : Nat → Int32) (n0 : Nat) (hA : ∀ q, n0 ≤ q → A q) (hb : ∀ j, j < ns → fits .byte (.int (bs j)) = true) (hns : ns < 32768) : Met l yJ5_init_a7421 (ws_ yJ5_init_a7421 cJ5_init_a7421 5 (Option.none : Option Jvm.ClassFile.FieldType)) ({ frames := 7, cells := 1, slots := (ns + 16), locals := 210 } : Room) (gPx D A [.ref b, .ref a] (sb0 b) (fun U H => n0 ≤ H.size ∧ Tx A U H a vs ns bs)) (gG A (fun V H H1 => V = none ∧ ∃ (v1 : Nat) (f1 : Nat → Int32), (∀ j, j < ns → f1 j = bs j) ∧ fbt f1 ∧ va_P D vwCl (sbW D b v1 (ns + 16) f1 ns) H1 ∧ va_D A (sbW D b v1 (ns + 16) f1 ns))) 1 (ns + 16) A := by
  refine g_metX [(0, .ref b), (1, .ref a)] (by decide +kernel) (Nat.le_of_ble_eq_true rfl) rfl (fun pg en s mi ar below me co ls S hK hP hD hE hS hx hr hlk hnm hl => ?_)
  refine lv_aload_n S.1 S.2.1 dJ5_init_a7421_0 rfl (lv_at hl 0 rfl) ?_
  refine n_objInit S hl.1 qw849 qw30 qw31 dJ5_init_a7421_1 (Nat.le_of_ble_eq_true rfl) (Nat.le_of_ble_eq_true rfl) ?_
  refine lv_aload_n S.1 S.2.1 dJ5_init_a7421_4 rfl (lv_at hl 1 rfl) ?_
  refine x_aftR (st1 := [.int (nI ns)]) (x_V (As := []) (rest := []) S mi_J0_length_8abf5 qw850 (x_J0_length_8abf5 l D A (sb0 b) a vs ns bs) stX_tx hK hP hD (hE.kept hS.2.1) (hx.2.kept hS.2.1) (hx.2.kept hS.2.1).recv rfl rfl hl.1 (Nat.le_of_ble_eq_true rfl) rfl rfl ⟨(Nat.le_of_ble_eq_true rfl), (Nat.le_of_ble_eq_true rfl)⟩ ⟨(by show 0 + 0 ≤ 1; omega), (by show 0 + 0 ≤ (ns + 16); omega)⟩ dJ5_init_a7421_5) hS (fun _ h => h) rfl (fun locs hS => ?_)
  refine lv_istore_n (lv' := [(2, .int (nI ns)), (0, .ref b), (1, .ref a)]) S.1 S.2.1 dJ5_init_a7421_8 rfl hl (by decide) rfl (fun ls hl => ?_)
  refine lv_iload_n S.1 S.2.1 dJ5_init_a7421_9 rfl (lv_at hl 0 rfl) ?_
  refine lv_ldc (v := 2147483631) S.1 S.2.1 S.2.2.2.1 (S.2.2.2.2 _ qw851) dJ5_init_a7421_10 ?_
  refine lv_icmp_ge (tgt := 22) S.1 S.2.1 dJ5_init_a7421_12 (by decide) (fun z9 => absurd z9 (fun z8 => absurd (Int32.le_iff_toInt_le.mp z8) (by rw [nI_toInt (by omega), show (2147483631 : Int32).toInt = 2147483631 by decide]; omega))) (fun _ => ?_)
  refine lv_iload_n S.1 S.2.1 dJ5_init_a7421_15 rfl (lv_at hl 0 rfl) ?_
  refine lv_bipush (v := 16) S.1 S.2.1 dJ5_init_a7421_16 (by decide) ?_
  refine lv_iadd S.1 S.2.1 dJ5_init_a7421_18 ?_
  rw [show nI ns + 16 = nI (ns + 16) from nI_add ns 16]
  refine lv_goto (tgt := 24) S.1 S.2.1 dJ5_init_a7421_19 (by decide) ?_
  refine lv_istore_n (lv' := [(3, .int (nI (ns + 16))), (2, .int (nI ns)), (0, .ref b), (1, .ref a)]) S.1 S.2.1 dJ5_init_a7421_24 rfl hl (by decide) rfl (fun ls hl => ?_)
  refine lv_aload_n S.1 S.2.1 dJ5_init_a7421_25 rfl (lv_at hl 3 rfl) ?_
  refine x_aftR (st1 := [.int 0]) (x_V (As := []) (rest := []) S mi_J0_coder_7d493 qw853 (x_J0_coder_7d493 l D A (sb0 b) a vs ns bs) stX_tx hK hP hD (hE.kept hS.2.1) (hx.2.kept hS.2.1) (hx.2.kept hS.2.1).recv rfl rfl hl.1 (Nat.le_of_ble_eq_true rfl) rfl rfl ⟨(Nat.le_of_ble_eq_true rfl), (Nat.le_of_ble_eq_true rfl)⟩ ⟨(by show 0 + 0 ≤ 1; omega), (by show 0 + 0 ≤ (ns + 16); omega)⟩ dJ5_init_a7421_26) hS (fun _ h => h) rfl (fun locs hS => ?_)
  refine lv_istore (lv' := [(4, .int 0), (3, .int (nI (ns + 16))), (2, .int (nI ns)), (0, .ref b), (1, .ref a)]) S.1 S.2.1 dJ5_init_a7421_29 hl (by decide) rfl (fun ls hl => ?_)
  refine lv_aload_n S.1 S.2.1 dJ5_init_a7421_31 rfl (lv_at hl 3 rfl) ?_
  refine lv_iload S.1 S.2.1 dJ5_init_a7421_32 (lv_at hl 0 rfl) ?_
  refine g_put (q0 := 0) S hK hP hD hS rfl rfl inJ4 tyJ4_ok nmJ4 1 (by decide) qw961 rfl rfl rfl (Nat.le_of_ble_eq_true rfl) dJ5_init_a7421_34 (fun w1 H locs hw hP hD hS => ?_)
  have hw : w1 = sb0 b := hw
  subst hw
  refine lv_aload_n S.1 S.2.1 dJ5_init_a7421_37 rfl (lv_at hl 3 rfl) ?_
  refine lv_iload S.1 S.2.1 dJ5_init_a7421_38 (lv_at hl 0 rfl) ?_
  refine lv_if_ne (tgt := 49) S.1 S.2.1 dJ5_init_a7421_40 (by decide) (fun z9 => absurd (by decide) z9) (fun _ => ?_)
  refine lv_iload_n S.1 S.2.1 dJ5_init_a7421_43 rfl (lv_at hl 1 rfl) ?_
  refine g_newa (ty := .byte) (a0 := (ns + 16, .inl z0)) S hK hP hD hS (hA _ (Nat.le_trans hx.1 hS.1)) rfl (fun C h => by cases h) qw54 1 rfl (fun _ => rfl) (nI_pos (by omega)) (nI_clamp (by omega)) (by show (ns + 16) * 1 ≤ 536870912; omega) (Nat.le_of_ble_eq_true rfl) (by show 0 + 0 + 0 + (ns + 16) ≤ ns + 16; omega) dJ5_init_a7421_44 (fun H1 hz1 hP hD hS => ?_)
  generalize hvq : H.size = vq at *
  refine lv_goto (tgt := 53) S.1 S.2.1 dJ5_init_a7421_46 (by decide) ?_
  refine g_put (q0 := 0) S hK hP hD hS rfl rfl inJ4 tyJ4_ok nmJ4 0 (by decide) qw960 rfl rfl rfl (Nat.le_of_ble_eq_true rfl) dJ5_init_a7421_53 (fun w1 H locs hw hP hD hS => ?_)
  have hw : w1 = sbW D b vq (ns + 16) z0 0 := hw
  subst hw
  have c0 : capC (0 + ns) (ns + 16) = 0 := if_pos (by omega)
  have c1 : capS (0 + ns) (ns + 16) = 0 := if_pos (by omega)
  have c2 : capq (0 + ns) (ns + 16) = ns + 16 := if_pos (by omega)
  refine lv_aload_n S.1 S.2.1 dJ5_init_a7421_56 rfl (lv_at hl 3 rfl) ?_
  refine lv_aload_n S.1 S.2.1 dJ5_init_a7421_57 rfl (lv_at hl 4 rfl) ?_
  refine x_aft (x_O (As := [.ref a]) (rest := []) S mo_J4_append_cf1ce qw861 (x_J4_append_cf1ce l D A b vq (ns + 16) 0 z0 a vs ns bs n0 hA fbt_z0 hb (Nat.zero_le _) (by omega) (by omega)) (stX_and stX_sz stX_tx) hK hP hD (hE.kept hS.2.1) ⟨Nat.le_trans hx.1 hS.1, hx.2.kept hS.2.1⟩ (sb_recv hK hP) rfl rfl hl.1 (Nat.le_of_ble_eq_true rfl) rfl rfl ⟨(Nat.le_of_ble_eq_true rfl), (Nat.le_of_ble_eq_true rfl)⟩ ⟨(by show (0 + 0 + 0 + 1) + (capC (0 + ns) (ns + 16)) ≤ 1; omega), (by show (0 + 0 + 0 + (ns + 16)) + (capS (0 + ns) (ns + 16)) ≤ (ns + 16); omega)⟩ dJ5_init_a7421_58) hS (fun _ h => h) (fun V H1 locs hq9 hz9 hk9 hS => ?_)
  obtain ⟨rfl, v1, f1, -, e2, e3, hP, hD⟩ := hq9
  refine lv_pop S.1 S.2.1 dJ5_init_a7421_61 rfl ?_
  rw [c2, Nat.zero_add] at hP hD
  rw [c0, c1]
  rw [show 0 + 0 + 0 + (ns + 16) + 0 = ns + 16 from by omega]
  exact x_vret S hr hlk hS ⟨rfl, v1, f1, fun j hj => (by rw [← e2 j hj, Nat.zero_add]), e3, hP, hD⟩ dJ5_init_a7421_62
set_option maxHeartbeats 4000000 in
theorem x_J4_init_a7421 (l : Launch) (D : va_G) (A : Nat → Prop) (b : Nat) (a vs ns : Nat) (bs : Nat → Int32) (n0 : Nat) (hA : ∀ q, n0 ≤ q → A q) (hb : ∀ j, j < ns → fits .byte (.int (bs j)) = true) (hns : ns < 32768) : Met l yJ4_init_a7421 (ws_ yJ4_init_a7421 cJ4_init_a7421 2 (Option.none : Option Jvm.ClassFile.FieldType)) ({ frames := 8, cells := 1, slots := (ns + 16), locals := 240 } : Room) (gPx D A [.ref b, .ref a] (sb0 b) (fun U H => n0 ≤ H.size ∧ Tx A U H a vs ns bs)) (gG A (fun V H H1 => V = none ∧ ∃ (v1 : Nat) (f1 : Nat → Int32), (∀ j, j < ns → f1 j = bs j) ∧ fbt f1 ∧ va_P D vwCl (sbW D b v1 (ns + 16) f1 ns) H1 ∧ va_D A (sbW D b v1 (ns + 16) f1 ns))) 1 (ns + 16) A := by
  refine g_metX [(0, .ref b), (1, .ref a)] (by decide +kernel) (Nat.le_of_ble_eq_true rfl) rfl (fun pg en s mi ar below me co ls S hK hP hD hE hS hx hr hlk hnm hl => ?_)
  refine lv_aload_n S.1 S.2.1 dJ4_init_a7421_0 rfl (lv_at hl 0 rfl) ?_
  refine lv_aload_n S.1 S.2.1 dJ4_init_a7421_1 rfl (lv_at hl 1 rfl) ?_
  refine x_aft (x_I (As := [.ref a]) (rest := []) S mc_J5_init_a7421 qw846 (x_J5_init_a7421 l D A b a vs ns bs n0 hA hb hns) (stX_and stX_sz stX_tx) hK hP hD (hE.kept hS.2.1) ⟨Nat.le_trans hx.1 hS.1, hx.2.kept hS.2.1⟩  rfl rfl hl.1 (Nat.le_of_ble_eq_true rfl) rfl rfl ⟨(Nat.le_of_ble_eq_true rfl), (Nat.le_of_ble_eq_true rfl)⟩ ⟨(by show 0 + 1 ≤ 1; omega), (by show 0 + (ns + 16) ≤ (ns + 16); omega)⟩ dJ4_init_a7421_2) hS (fun _ h => h) (fun V H1 locs hq9 hz9 hk9 hS => ?_)
  obtain ⟨rfl, v1, f1, e1, e2, hP, hD⟩ := hq9
  rw [Nat.zero_add]
  rw [Nat.zero_add]
  exact x_vret S hr hlk hS ⟨rfl, v1, f1, e1, e2, hP, hD⟩ dJ4_init_a7421_5
