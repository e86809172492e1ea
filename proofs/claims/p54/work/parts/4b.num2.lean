/-! NUMBERS in decimal: the JDK's digits -/
theorem asc_lt {a : Nat} (h : a < 128) : asc (nI a) := ⟨nI_pos' (by omega), nI_lt h (by decide)⟩
theorem asc_dig (k u : Nat) : asc (dig k u) := asc_lt (by have := Nat.mod_lt (k / 10 ^ u) (show 0 < 10 by decide); omega)
theorem gc_step {k P c : Nat} {f f1 : Nat → Int32} {x : Int32} (hP : c + 1 ≤ P) (h1 : ∀ u, u < c → f1 (P - 1 - u) = dig k u) (h2 : ∀ j, j < P - c → f1 j = f j) (h3 : fbt f1) (hx : x = dig k c) :
    (∀ u, u < c + 1 → upd f1 (P - c - 1) x (P - 1 - u) = dig k u) ∧ (∀ j, j < P - (c + 1) → upd f1 (P - c - 1) x j = f j) ∧ fbt (upd f1 (P - c - 1) x) := by
  subst hx
  refine ⟨fun u hu => ?_, fun j hj => ?_, fbt_upd h3 (asc_ok (asc_dig k c)).2.2.2.1⟩
  · rcases Nat.lt_or_ge u c with h | h
    · rw [upd_ne (by omega)]
      exact h1 u h
    · have e : u = c := by omega
      subst e
      rw [show P - 1 - u = P - u - 1 by omega]
      exact upd_eq
  · rw [upd_ne (by omega)]
    exact h2 j (by omega)
theorem dig_1 {k k1 c : Nat} (h : k1 = k / 10 ^ c) : nI (48 + k1 % 100 % 10) = dig k c := by
  unfold dig
  rw [← h]
  congr 1
  omega
theorem dig_2 {k k1 c : Nat} (h : k1 = k / 10 ^ c) : nI (48 + k1 % 100 / 10) = dig k (c + 1) := by
  unfold dig
  rw [Nat.pow_succ, ← Nat.div_div_eq_div_mul, ← h]
  congr 1
  omega
theorem pow_next {k k1 c : Nat} (h : k1 = k / 10 ^ c) : k1 / 100 = k / 10 ^ (c + 2) := by
  rw [Nat.pow_add, ← Nat.div_div_eq_div_mul, ← h]
set_option maxHeartbeats 4000000 in
set_option maxRecDepth 100000 in
theorem x_J6_getChars_ba4f3_n (l : Launch) (D : va_G) (A : Nat → Prop) (b v m n : Nat) (f : Nat → Int32) (k P : Nat) (hf : fbt f) (hk : k ≤ 2 ^ 31) (hp : 0 < k) (hP0 : sz k + 1 ≤ P) (hPm : P ≤ m) (hm : m < 2 ^ 26) : Met l yJ6_getChars_ba4f3 (ws_ yJ6_getChars_ba4f3 cJ6_getChars_ba4f3 7 (Option.some Jvm.ClassFile.FieldType.int)) ({ frames := 0, cells := 0, slots := 0, locals := 0 } : Room) (gPx D A [.int (mI k), .int (nI P), .ref v] (sbW D b v m f n) (fun U H => DGf A U H)) (gG A (fun V H H1 => V = some (.int (nI (P - (sz k + 1)))) ∧ ∃ (f1 : Nat → Int32), (∀ u, u < sz k → f1 (P - 1 - u) = dig k u) ∧ f1 (P - 1 - sz k) = 45 ∧ (∀ j, j < P - (sz k + 1) → f1 j = f j) ∧ fbt f1 ∧ va_P D vwCl (sbW D b v m f1 n) H1 ∧ va_D A (sbW D b v m f1 n))) 0 0 A := by
  skip
  refine g_metX [(0, .int (mI k)), (1, .int (nI P)), (2, .ref v)] (by decide +kernel) (Nat.le_of_ble_eq_true rfl) rfl (fun pg en s mi ar below me co ls S hK hP hD hE hS hx hr hlk hnm hl => ?_)
  obtain ⟨t1, t2, hz1, ht1, hz2, ht2⟩ := hx
  have ex : ∀ ( k1 c1 : Nat) (f1 : Nat → Int32) (H : Heap) (locs : List Loc) (ls : Array Slot), k1 < 100 → k1 ≤ 2 ^ 31 → k1 = k / 10 ^ c1 → sz k = c1 + sz k1 → (∀ u, u < c1 → f1 (P - 1 - u) = dig k u) → (∀ j, j < P - c1 → f1 j = f j) → fbt f1 → va_P D vwCl (sbW D b v m f1 n) H → va_D A (sbW D b v m f1 n) → va_S A s.heap H locs → lv_has ls 7 [(0, .int (mI k1)), (1, .int (nI P)), (2, .ref v), (5, .int (nI (P - c1))), (6, .int 1)] → W pg l en ({ frames := 0, cells := 0, slots := 0, locals := 0 } : Room) s mi ar below me co H locs 0 0 (MQ below (gG A (fun V H H1 => V = some (.int (nI (P - (sz k + 1)))) ∧ ∃ (f1 : Nat → Int32), (∀ u, u < sz k → f1 (P - 1 - u) = dig k u) ∧ f1 (P - 1 - sz k) = 45 ∧ (∀ j, j < P - (sz k + 1) → f1 j = f j) ∧ fbt f1 ∧ va_P D vwCl (sbW D b v m f1 n) H1 ∧ va_D A (sbW D b v m f1 n))) ar s 0 0 A) (F0 mi 72 ls []) := by
    intro k1 c1 f1 H locs ls h100 hk1 hkc hsz g1 g2 g3 hP hD hS hl
    have hs1 := sz_pos k1
    refine lv_aload_n S.1 S.2.1 dJ6_getChars_ba4f3_72 rfl (lv_at hl 2 rfl) ?_
    refine lv_iinc (v := (nI (P - c1 - 1))) (lv' := [(5, .int (nI (P - c1 - 1))), (0, .int (mI k1)), (1, .int (nI P)), (2, .ref v), (6, .int 1)]) S.1 S.2.1 dJ6_getChars_ba4f3_73 hl (k := 3) rfl (nI_dec (by omega)) (by decide) rfl (fun ls hl => ?_)
    refine lv_iload S.1 S.2.1 dJ6_getChars_ba4f3_76 (lv_at hl 0 rfl) ?_
    refine va_gets S.1 S.2.1 hz1 hS S.2.2.2.1 (S.2.2.2.2 _ qw989) (fun _ h => h) dJ6_getChars_ba4f3_78 ?_
    refine lv_iload_n S.1 S.2.1 dJ6_getChars_ba4f3_81 rfl (lv_at hl 1 rfl) ?_
    refine lv_ineg S.1 S.2.1 dJ6_getChars_ba4f3_82 ?_
    rw [mI_neg]
    refine va_tb S.1 S.2.1 ht1 hS (vp_in_nI (show k1 < 100 by omega) (by decide)) (v := .int (nI (48 + k1 % 10))) (by rw [nI_clamp (by omega)]) dJ6_getChars_ba4f3_83 ?_
    refine g_bast (q0 := 1) S hK hP hD hS rfl (vp_in_nI (by omega) (by omega)) dJ6_getChars_ba4f3_84 (fun w1 H locs hw hP hD hS => ?_)
    have hw : w1 = sbW D b v m (upd f1 (nI (P - c1 - 1)).toNatClampNeg (vp_nar .byte (nI (48 + k1 % 10)))) n := hw
    subst hw
    rw [nI_clamp (n := (P - c1 - 1)) (by omega), vp_narB (asc_lt (by omega))] at hP hD
    obtain ⟨a1, a2, a3⟩ := gc_step (k := k) (P := P) (c := c1) (x := (nI (48 + k1 % 10))) (by omega) g1 g2 g3 ((show nI (48 + k1 % 10) = nI (48 + k1 % 100 % 10) from by congr 2; omega).trans (dig_1 hkc))
    rw [show (P - c1 - 1) = P - c1 - 1 from by omega] at hP hD
    refine lv_iload_n S.1 S.2.1 dJ6_getChars_ba4f3_85 rfl (lv_at hl 1 rfl) ?_
    refine lv_bipush (v := (-9)) S.1 S.2.1 dJ6_getChars_ba4f3_86 (by decide) ?_
    refine lv_icmp_ge (tgt := 104) S.1 S.2.1 dJ6_getChars_ba4f3_88 (by decide) (fun c9 => ?_) (fun c9 => ?_)
    · have q10 : k1 < 10 := by rcases Nat.lt_or_ge k1 10 with h | h; exact h; exact absurd ((mI_le (a := 9) (by decide) hk1).mp c9) (by omega)
      have hdn : sz k = c1 + 1 := by rw [hsz, sz_1 q10]
      refine lv_iload S.1 S.2.1 dJ6_getChars_ba4f3_104 (lv_at hl 4 rfl) ?_
      refine lv_if_eq (tgt := 118) S.1 S.2.1 dJ6_getChars_ba4f3_106 (by decide) (fun z9 => absurd z9 (by decide)) (fun _ => ?_)
      refine lv_aload_n S.1 S.2.1 dJ6_getChars_ba4f3_109 rfl (lv_at hl 3 rfl) ?_
      refine lv_iinc (v := (nI (P - sz k - 1))) (lv' := [(5, .int (nI (P - sz k - 1))), (0, .int (mI k1)), (1, .int (nI P)), (2, .ref v), (6, .int 1)]) S.1 S.2.1 dJ6_getChars_ba4f3_110 hl (k := 0) rfl ((by rw [show P - sz k - 1 = (P - c1 - 1) - 1 from by omega]; exact nI_dec (by omega))) (by decide) rfl (fun ls hl => ?_)
      refine lv_iload S.1 S.2.1 dJ6_getChars_ba4f3_113 (lv_at hl 0 rfl) ?_
      refine lv_bipush (v := 45) S.1 S.2.1 dJ6_getChars_ba4f3_115 (by decide) ?_
      refine g_bast (q0 := 1) S hK hP hD hS rfl (vp_in_nI (by omega) (by omega)) dJ6_getChars_ba4f3_117 (fun w1 H locs hw hP hD hS => ?_)
      have hw : w1 = sbW D b v m (upd (upd f1 (P - c1 - 1) (nI (48 + k1 % 10))) (nI (P - sz k - 1)).toNatClampNeg (vp_nar .byte 45)) n := hw
      subst hw
      rw [nI_clamp (n := P - sz k - 1) (by omega), show vp_nar .byte 45 = 45 from by decide] at hP hD
      refine lv_iload S.1 S.2.1 dJ6_getChars_ba4f3_118 (lv_at hl 0 rfl) ?_
      exact x_iret S hr hlk hS ⟨by rw [show P - (sz k + 1) = P - sz k - 1 by omega], _, fun u hu => (upd_ne (by omega)).trans (a1 u (by omega)), by rw [show P - 1 - sz k = P - sz k - 1 by omega]; exact upd_eq, fun j hj => (upd_ne (by omega)).trans (a2 j (by omega)), fbt_upd a3 (by decide), hP, hD⟩ dJ6_getChars_ba4f3_120
    · have q10 : 10 ≤ k1 := by rcases Nat.lt_or_ge k1 10 with h | h; exact absurd ((mI_le (a := 9) (by decide) hk1).mpr (by omega)) c9; exact h
      have hz2_ := sz_2 q10 h100
      refine lv_aload_n S.1 S.2.1 dJ6_getChars_ba4f3_91 rfl (lv_at hl 3 rfl) ?_
      refine lv_iinc (v := (nI (P - (c1 + 1) - 1))) (lv' := [(5, .int (nI (P - (c1 + 1) - 1))), (0, .int (mI k1)), (1, .int (nI P)), (2, .ref v), (6, .int 1)]) S.1 S.2.1 dJ6_getChars_ba4f3_92 hl (k := 0) rfl (by rw [show P - (c1 + 1) - 1 = P - c1 - 1 - 1 from by omega]; exact nI_dec (by omega)) (by decide) rfl (fun ls hl => ?_)
      refine lv_iload S.1 S.2.1 dJ6_getChars_ba4f3_95 (lv_at hl 0 rfl) ?_
      refine va_gets S.1 S.2.1 hz2 hS S.2.2.2.1 (S.2.2.2.2 _ qw991) (fun _ h => h) dJ6_getChars_ba4f3_97 ?_
      refine lv_iload_n S.1 S.2.1 dJ6_getChars_ba4f3_100 rfl (lv_at hl 1 rfl) ?_
      refine lv_ineg S.1 S.2.1 dJ6_getChars_ba4f3_101 ?_
      rw [mI_neg]
      refine va_tb S.1 S.2.1 ht2 hS (vp_in_nI (show k1 < 100 by omega) (by decide)) (v := .int (nI (48 + k1 / 10))) (by rw [nI_clamp (by omega)]) dJ6_getChars_ba4f3_102 ?_
      refine g_bast (q0 := 1) S hK hP hD hS rfl (vp_in_nI (by omega) (by omega)) dJ6_getChars_ba4f3_103 (fun w1 H locs hw hP hD hS => ?_)
      have hw : w1 = sbW D b v m (upd (upd f1 (P - c1 - 1) (nI (48 + k1 % 10))) (nI (P - (c1 + 1) - 1)).toNatClampNeg (vp_nar .byte (nI (48 + k1 / 10)))) n := hw
      subst hw
      rw [nI_clamp (n := (P - (c1 + 1) - 1)) (by omega), vp_narB (asc_lt (by omega))] at hP hD
      obtain ⟨b_1, b_2, b_3⟩ := gc_step (k := k) (P := P) (c := c1 + 1) (x := (nI (48 + k1 / 10))) (by omega) a1 a2 a3 ((show nI (48 + k1 / 10) = nI (48 + k1 % 100 / 10) from by congr 2; omega).trans (dig_2 hkc))
      rw [show (P - (c1 + 1) - 1) = P - (c1 + 1) - 1 from by omega] at hP hD
      have hdn : sz k = c1 + 2 := by rw [hsz, hz2_]
      refine lv_iload S.1 S.2.1 dJ6_getChars_ba4f3_104 (lv_at hl 4 rfl) ?_
      refine lv_if_eq (tgt := 118) S.1 S.2.1 dJ6_getChars_ba4f3_106 (by decide) (fun z9 => absurd z9 (by decide)) (fun _ => ?_)
      refine lv_aload_n S.1 S.2.1 dJ6_getChars_ba4f3_109 rfl (lv_at hl 3 rfl) ?_
      refine lv_iinc (v := (nI (P - sz k - 1))) (lv' := [(5, .int (nI (P - sz k - 1))), (0, .int (mI k1)), (1, .int (nI P)), (2, .ref v), (6, .int 1)]) S.1 S.2.1 dJ6_getChars_ba4f3_110 hl (k := 0) rfl ((by rw [show P - sz k - 1 = (P - (c1 + 1) - 1) - 1 from by omega]; exact nI_dec (by omega))) (by decide) rfl (fun ls hl => ?_)
      refine lv_iload S.1 S.2.1 dJ6_getChars_ba4f3_113 (lv_at hl 0 rfl) ?_
      refine lv_bipush (v := 45) S.1 S.2.1 dJ6_getChars_ba4f3_115 (by decide) ?_
      refine g_bast (q0 := 1) S hK hP hD hS rfl (vp_in_nI (by omega) (by omega)) dJ6_getChars_ba4f3_117 (fun w1 H locs hw hP hD hS => ?_)
      have hw : w1 = sbW D b v m (upd (upd (upd f1 (P - c1 - 1) (nI (48 + k1 % 10))) (P - (c1 + 1) - 1) (nI (48 + k1 / 10))) (nI (P - sz k - 1)).toNatClampNeg (vp_nar .byte 45)) n := hw
      subst hw
      rw [nI_clamp (n := P - sz k - 1) (by omega), show vp_nar .byte 45 = 45 from by decide] at hP hD
      refine lv_iload S.1 S.2.1 dJ6_getChars_ba4f3_118 (lv_at hl 0 rfl) ?_
      exact x_iret S hr hlk hS ⟨by rw [show P - (sz k + 1) = P - sz k - 1 by omega], _, fun u hu => (upd_ne (by omega)).trans (b_1 u (by omega)), by rw [show P - 1 - sz k = P - sz k - 1 by omega]; exact upd_eq, fun j hj => (upd_ne (by omega)).trans (b_2 j (by omega)), fbt_upd b_3 (by decide), hP, hD⟩ dJ6_getChars_ba4f3_120
  have loop : ∀ (fu k1 c1 : Nat) (f1 : Nat → Int32) (H : Heap) (locs : List Loc) (ls : Array Slot), k1 < 100 ^ fu → k1 ≤ 2 ^ 31 → k1 = k / 10 ^ c1 → sz k = c1 + sz k1 → (∀ u, u < c1 → f1 (P - 1 - u) = dig k u) → (∀ j, j < P - c1 → f1 j = f j) → fbt f1 → va_P D vwCl (sbW D b v m f1 n) H → va_D A (sbW D b v m f1 n) → va_S A s.heap H locs → lv_has ls 7 [(0, .int (mI k1)), (1, .int (nI P)), (2, .ref v), (5, .int (nI (P - c1))), (6, .int 1)] → W pg l en ({ frames := 0, cells := 0, slots := 0, locals := 0 } : Room) s mi ar below me co H locs 0 0 (MQ below (gG A (fun V H H1 => V = some (.int (nI (P - (sz k + 1)))) ∧ ∃ (f1 : Nat → Int32), (∀ u, u < sz k → f1 (P - 1 - u) = dig k u) ∧ f1 (P - 1 - sz k) = 45 ∧ (∀ j, j < P - (sz k + 1) → f1 j = f j) ∧ fbt f1 ∧ va_P D vwCl (sbW D b v m f1 n) H1 ∧ va_D A (sbW D b v m f1 n))) ar s 0 0 A) (F0 mi 22 ls []) := by
    intro fu
    induction fu with
    | zero =>
      intro k1 c1 f1 H locs ls hfu hk1 hkc hsz g1 g2 g3 hP hD hS hl
      have h100 : k1 < 100 := by rw [Nat.pow_zero] at hfu; omega
      refine lv_iload_n S.1 S.2.1 dJ6_getChars_ba4f3_22 rfl (lv_at hl 0 rfl) ?_
      refine lv_bipush (v := (-100)) S.1 S.2.1 dJ6_getChars_ba4f3_23 (by decide) ?_
      refine lv_icmp_gt (tgt := 72) S.1 S.2.1 dJ6_getChars_ba4f3_25 (by decide) (fun _ => ?_) (fun z9 => absurd ((by have := (mI_le (a := k1) (b := 100) hk1 (by decide)); rw [Int32.lt_iff_toInt_lt, mI_toInt hk1]; show (-100 : Int) < _; omega)) z9)
      exact ex k1 c1 f1 H locs ls h100 hk1 hkc hsz g1 g2 g3 hP hD hS hl
    | succ fu ih =>
      intro k1 c1 f1 H locs ls hfu hk1 hkc hsz g1 g2 g3 hP hD hS hl
      refine lv_iload_n S.1 S.2.1 dJ6_getChars_ba4f3_22 rfl (lv_at hl 0 rfl) ?_
      refine lv_bipush (v := (-100)) S.1 S.2.1 dJ6_getChars_ba4f3_23 (by decide) ?_
      refine lv_icmp_gt (tgt := 72) S.1 S.2.1 dJ6_getChars_ba4f3_25 (by decide) (fun c8 => ?_) (fun c8 => ?_)
      · have h100 : k1 < 100 := by
          have h := Int32.lt_iff_toInt_lt.mp c8
          rw [mI_toInt hk1, show (-100 : Int32).toInt = -100 by decide] at h
          omega
        exact ex k1 c1 f1 H locs ls h100 hk1 hkc hsz g1 g2 g3 hP hD hS hl
      · have h100 : 100 ≤ k1 := by
          rcases Nat.lt_or_ge k1 100 with h | h
          · exact absurd (Int32.lt_iff_toInt_lt.mpr (by rw [mI_toInt hk1, show (-100 : Int32).toInt = -100 by decide]; omega)) c8
          · exact h
        have hb := sz_big h100 hk1
        have hs2 := sz_pos (k1 / 100)
        refine lv_iload_n S.1 S.2.1 dJ6_getChars_ba4f3_28 rfl (lv_at hl 0 rfl) ?_
        refine lv_bipush (v := 100) S.1 S.2.1 dJ6_getChars_ba4f3_29 (by decide) ?_
        refine lv_idiv S.1 S.2.1 dJ6_getChars_ba4f3_31 (by decide) ?_
        rw [mI_div hk1]
        refine lv_istore_n (lv' := [(3, .int (mI (k1 / 100))), (0, .int (mI k1)), (1, .int (nI P)), (2, .ref v), (5, .int (nI (P - c1))), (6, .int 1)]) S.1 S.2.1 dJ6_getChars_ba4f3_32 rfl hl (by decide) rfl (fun ls hl => ?_)
        refine lv_iload_n S.1 S.2.1 dJ6_getChars_ba4f3_33 rfl (lv_at hl 0 rfl) ?_
        refine lv_bipush (v := 100) S.1 S.2.1 dJ6_getChars_ba4f3_34 (by decide) ?_
        refine lv_imul S.1 S.2.1 dJ6_getChars_ba4f3_36 ?_
        refine lv_iload_n S.1 S.2.1 dJ6_getChars_ba4f3_37 rfl (lv_at hl 1 rfl) ?_
        refine lv_isub S.1 S.2.1 dJ6_getChars_ba4f3_38 ?_
        rw [mI_rem hk1]
        refine lv_istore (lv' := [(4, .int (nI (k1 % 100))), (3, .int (mI (k1 / 100))), (0, .int (mI k1)), (1, .int (nI P)), (2, .ref v), (5, .int (nI (P - c1))), (6, .int 1)]) S.1 S.2.1 dJ6_getChars_ba4f3_39 hl (by decide) rfl (fun ls hl => ?_)
        refine lv_iload_n S.1 S.2.1 dJ6_getChars_ba4f3_41 rfl (lv_at hl 1 rfl) ?_
        refine lv_istore_n (lv' := [(0, .int (mI (k1 / 100))), (4, .int (nI (k1 % 100))), (3, .int (mI (k1 / 100))), (1, .int (nI P)), (2, .ref v), (5, .int (nI (P - c1))), (6, .int 1)]) S.1 S.2.1 dJ6_getChars_ba4f3_42 rfl hl (by decide) rfl (fun ls hl => ?_)
        refine lv_aload_n S.1 S.2.1 dJ6_getChars_ba4f3_43 rfl (lv_at hl 4 rfl) ?_
        refine lv_iinc (v := (nI (P - c1 - 1))) (lv' := [(5, .int (nI (P - c1 - 1))), (0, .int (mI (k1 / 100))), (4, .int (nI (k1 % 100))), (3, .int (mI (k1 / 100))), (1, .int (nI P)), (2, .ref v), (6, .int 1)]) S.1 S.2.1 dJ6_getChars_ba4f3_44 hl (k := 5) rfl (nI_dec (by omega)) (by decide) rfl (fun ls hl => ?_)
        refine lv_iload S.1 S.2.1 dJ6_getChars_ba4f3_47 (lv_at hl 0 rfl) ?_
        refine va_gets S.1 S.2.1 hz1 hS S.2.2.2.1 (S.2.2.2.2 _ qw989) (fun _ h => h) dJ6_getChars_ba4f3_49 ?_
        refine lv_iload S.1 S.2.1 dJ6_getChars_ba4f3_52 (lv_at hl 2 rfl) ?_
        refine va_tb S.1 S.2.1 ht1 hS (vp_in_nI (show k1 % 100 < 100 by omega) (by decide)) (v := .int (nI (48 + k1 % 100 % 10))) (by rw [nI_clamp (by omega)]) dJ6_getChars_ba4f3_54 ?_
        refine g_bast (q0 := 1) S hK hP hD hS rfl (vp_in_nI (by omega) (by omega)) dJ6_getChars_ba4f3_55 (fun w1 H locs hw hP hD hS => ?_)
        have hw : w1 = sbW D b v m (upd f1 (nI (P - c1 - 1)).toNatClampNeg (vp_nar .byte (nI (48 + k1 % 100 % 10)))) n := hw
        subst hw
        rw [nI_clamp (n := (P - c1 - 1)) (by omega), vp_narB (asc_lt (by omega))] at hP hD
        obtain ⟨a1, a2, a3⟩ := gc_step (k := k) (P := P) (c := c1) (x := (nI (48 + k1 % 100 % 10))) (by omega) g1 g2 g3 (dig_1 hkc)
        rw [show (P - c1 - 1) = P - c1 - 1 from by omega] at hP hD
        refine lv_aload_n S.1 S.2.1 dJ6_getChars_ba4f3_56 rfl (lv_at hl 5 rfl) ?_
        refine lv_iinc (v := (nI (P - (c1 + 1) - 1))) (lv' := [(5, .int (nI (P - (c1 + 1) - 1))), (0, .int (mI (k1 / 100))), (4, .int (nI (k1 % 100))), (3, .int (mI (k1 / 100))), (1, .int (nI P)), (2, .ref v), (6, .int 1)]) S.1 S.2.1 dJ6_getChars_ba4f3_57 hl (k := 0) rfl (by rw [show P - (c1 + 1) - 1 = P - c1 - 1 - 1 from by omega]; exact nI_dec (by omega)) (by decide) rfl (fun ls hl => ?_)
        refine lv_iload S.1 S.2.1 dJ6_getChars_ba4f3_60 (lv_at hl 0 rfl) ?_
        refine va_gets S.1 S.2.1 hz2 hS S.2.2.2.1 (S.2.2.2.2 _ qw991) (fun _ h => h) dJ6_getChars_ba4f3_62 ?_
        refine lv_iload S.1 S.2.1 dJ6_getChars_ba4f3_65 (lv_at hl 2 rfl) ?_
        refine va_tb S.1 S.2.1 ht2 hS (vp_in_nI (show k1 % 100 < 100 by omega) (by decide)) (v := .int (nI (48 + k1 % 100 / 10))) (by rw [nI_clamp (by omega)]) dJ6_getChars_ba4f3_67 ?_
        refine g_bast (q0 := 1) S hK hP hD hS rfl (vp_in_nI (by omega) (by omega)) dJ6_getChars_ba4f3_68 (fun w1 H locs hw hP hD hS => ?_)
        have hw : w1 = sbW D b v m (upd (upd f1 (P - c1 - 1) (nI (48 + k1 % 100 % 10))) (nI (P - (c1 + 1) - 1)).toNatClampNeg (vp_nar .byte (nI (48 + k1 % 100 / 10)))) n := hw
        subst hw
        rw [nI_clamp (n := (P - (c1 + 1) - 1)) (by omega), vp_narB (asc_lt (by omega))] at hP hD
        obtain ⟨b_1, b_2, b_3⟩ := gc_step (k := k) (P := P) (c := c1 + 1) (x := (nI (48 + k1 % 100 / 10))) (by omega) a1 a2 a3 (dig_2 hkc)
        rw [show (P - (c1 + 1) - 1) = P - (c1 + 1) - 1 from by omega] at hP hD
        refine lv_goto (tgt := 22) S.1 S.2.1 dJ6_getChars_ba4f3_69 (by decide) ?_
        have hl2 : lv_has ls 7 [(0, .int (mI (k1 / 100))), (1, .int (nI P)), (2, .ref v), (5, .int (nI (P - (c1 + 1) - 1))), (6, .int 1)] := lv_sub hl [1, 4, 5, 0, 6] rfl
        rw [show P - (c1 + 1) - 1 = P - (c1 + 2) from by omega] at hl2
        exact ih (k1 / 100) (c1 + 2) _ _ _ _ (by rw [Nat.pow_succ] at hfu; omega) (by omega) (pow_next hkc) (by omega) b_1 b_2 b_3 hP hD hS hl2
  refine lv_iload_n S.1 S.2.1 dJ6_getChars_ba4f3_0 rfl (lv_at hl 1 rfl) ?_
  refine lv_istore (lv' := [(5, .int (nI P)), (0, .int (mI k)), (1, .int (nI P)), (2, .ref v)]) S.1 S.2.1 dJ6_getChars_ba4f3_1 hl (by decide) rfl (fun ls hl => ?_)
  refine lv_iload_n S.1 S.2.1 dJ6_getChars_ba4f3_3 rfl (lv_at hl 1 rfl) ?_
  refine lv_if_ge (tgt := 11) S.1 S.2.1 dJ6_getChars_ba4f3_4 (by decide) (fun z9 => absurd z9 (fun z8 => absurd (Int32.le_iff_toInt_le.mp z8) (by rw [mI_toInt hk, Int32.toInt_zero]; have := hp; omega))) (fun _ => ?_)
  refine lv_iconst (v := 1) S.1 S.2.1 dJ6_getChars_ba4f3_7 (by decide) ?_
  refine lv_goto (tgt := 12) S.1 S.2.1 dJ6_getChars_ba4f3_8 (by decide) ?_
  refine lv_istore (lv' := [(6, .int 1), (5, .int (nI P)), (0, .int (mI k)), (1, .int (nI P)), (2, .ref v)]) S.1 S.2.1 dJ6_getChars_ba4f3_12 hl (by decide) rfl (fun ls hl => ?_)
  refine lv_iload S.1 S.2.1 dJ6_getChars_ba4f3_14 (lv_at hl 0 rfl) ?_
  refine lv_if_ne (tgt := 22) S.1 S.2.1 dJ6_getChars_ba4f3_16 (by decide) (fun _ => ?_) (fun z9 => absurd z9 (by decide))
  have hl2 : lv_has ls 7 [(0, .int (mI k)), (1, .int (nI P)), (2, .ref v), (5, .int (nI (P - 0))), (6, .int 1)] := lv_sub hl [2, 3, 4, 1, 0] rfl
  exact loop 5 k 0 f _ _ _ (Nat.lt_of_le_of_lt hk (by decide)) hk (by rw [Nat.pow_zero, Nat.div_one]) (Nat.zero_add _).symm (fun u hu => absurd hu (Nat.not_lt_zero u)) (fun _ _ => rfl) hf hP hD hS hl2
set_option maxHeartbeats 4000000 in
set_option maxRecDepth 100000 in
theorem x_J6_getChars_ba4f3_p (l : Launch) (D : va_G) (A : Nat → Prop) (b v m n : Nat) (f : Nat → Int32) (k P : Nat) (hf : fbt f) (hk : k ≤ 2 ^ 31) (hn : k < 2 ^ 31) (hP0 : sz k + 0 ≤ P) (hPm : P ≤ m) (hm : m < 2 ^ 26) : Met l yJ6_getChars_ba4f3 (ws_ yJ6_getChars_ba4f3 cJ6_getChars_ba4f3 7 (Option.some Jvm.ClassFile.FieldType.int)) ({ frames := 0, cells := 0, slots := 0, locals := 0 } : Room) (gPx D A [.int (nI k), .int (nI P), .ref v] (sbW D b v m f n) (fun U H => DGf A U H)) (gG A (fun V H H1 => V = some (.int (nI (P - (sz k + 0)))) ∧ ∃ (f1 : Nat → Int32), (∀ u, u < sz k → f1 (P - 1 - u) = dig k u) ∧ (∀ j, j < P - (sz k + 0) → f1 j = f j) ∧ fbt f1 ∧ va_P D vwCl (sbW D b v m f1 n) H1 ∧ va_D A (sbW D b v m f1 n))) 0 0 A := by
  skip
  refine g_metX [(0, .int (nI k)), (1, .int (nI P)), (2, .ref v)] (by decide +kernel) (Nat.le_of_ble_eq_true rfl) rfl (fun pg en s mi ar below me co ls S hK hP hD hE hS hx hr hlk hnm hl => ?_)
  obtain ⟨t1, t2, hz1, ht1, hz2, ht2⟩ := hx
  have ex : ∀ ( k1 c1 : Nat) (f1 : Nat → Int32) (H : Heap) (locs : List Loc) (ls : Array Slot), k1 < 100 → k1 ≤ 2 ^ 31 → k1 = k / 10 ^ c1 → sz k = c1 + sz k1 → (∀ u, u < c1 → f1 (P - 1 - u) = dig k u) → (∀ j, j < P - c1 → f1 j = f j) → fbt f1 → va_P D vwCl (sbW D b v m f1 n) H → va_D A (sbW D b v m f1 n) → va_S A s.heap H locs → lv_has ls 7 [(0, .int (mI k1)), (1, .int (nI P)), (2, .ref v), (5, .int (nI (P - c1))), (6, .int 0)] → W pg l en ({ frames := 0, cells := 0, slots := 0, locals := 0 } : Room) s mi ar below me co H locs 0 0 (MQ below (gG A (fun V H H1 => V = some (.int (nI (P - (sz k + 0)))) ∧ ∃ (f1 : Nat → Int32), (∀ u, u < sz k → f1 (P - 1 - u) = dig k u) ∧ (∀ j, j < P - (sz k + 0) → f1 j = f j) ∧ fbt f1 ∧ va_P D vwCl (sbW D b v m f1 n) H1 ∧ va_D A (sbW D b v m f1 n))) ar s 0 0 A) (F0 mi 72 ls []) := by
    intro k1 c1 f1 H locs ls h100 hk1 hkc hsz g1 g2 g3 hP hD hS hl
    have hs1 := sz_pos k1
    refine lv_aload_n S.1 S.2.1 dJ6_getChars_ba4f3_72 rfl (lv_at hl 2 rfl) ?_
    refine lv_iinc (v := (nI (P - c1 - 1))) (lv' := [(5, .int (nI (P - c1 - 1))), (0, .int (mI k1)), (1, .int (nI P)), (2, .ref v), (6, .int 0)]) S.1 S.2.1 dJ6_getChars_ba4f3_73 hl (k := 3) rfl (nI_dec (by omega)) (by decide) rfl (fun ls hl => ?_)
    refine lv_iload S.1 S.2.1 dJ6_getChars_ba4f3_76 (lv_at hl 0 rfl) ?_
    refine va_gets S.1 S.2.1 hz1 hS S.2.2.2.1 (S.2.2.2.2 _ qw989) (fun _ h => h) dJ6_getChars_ba4f3_78 ?_
    refine lv_iload_n S.1 S.2.1 dJ6_getChars_ba4f3_81 rfl (lv_at hl 1 rfl) ?_
    refine lv_ineg S.1 S.2.1 dJ6_getChars_ba4f3_82 ?_
    rw [mI_neg]
    refine va_tb S.1 S.2.1 ht1 hS (vp_in_nI (show k1 < 100 by omega) (by decide)) (v := .int (nI (48 + k1 % 10))) (by rw [nI_clamp (by omega)]) dJ6_getChars_ba4f3_83 ?_
    refine g_bast (q0 := 1) S hK hP hD hS rfl (vp_in_nI (by omega) (by omega)) dJ6_getChars_ba4f3_84 (fun w1 H locs hw hP hD hS => ?_)
    have hw : w1 = sbW D b v m (upd f1 (nI (P - c1 - 1)).toNatClampNeg (vp_nar .byte (nI (48 + k1 % 10)))) n := hw
    subst hw
    rw [nI_clamp (n := (P - c1 - 1)) (by omega), vp_narB (asc_lt (by omega))] at hP hD
    obtain ⟨a1, a2, a3⟩ := gc_step (k := k) (P := P) (c := c1) (x := (nI (48 + k1 % 10))) (by omega) g1 g2 g3 ((show nI (48 + k1 % 10) = nI (48 + k1 % 100 % 10) from by congr 2; omega).trans (dig_1 hkc))
    rw [show (P - c1 - 1) = P - c1 - 1 from by omega] at hP hD
    refine lv_iload_n S.1 S.2.1 dJ6_getChars_ba4f3_85 rfl (lv_at hl 1 rfl) ?_
    refine lv_bipush (v := (-9)) S.1 S.2.1 dJ6_getChars_ba4f3_86 (by decide) ?_
    refine lv_icmp_ge (tgt := 104) S.1 S.2.1 dJ6_getChars_ba4f3_88 (by decide) (fun c9 => ?_) (fun c9 => ?_)
    · have q10 : k1 < 10 := by rcases Nat.lt_or_ge k1 10 with h | h; exact h; exact absurd ((mI_le (a := 9) (by decide) hk1).mp c9) (by omega)
      have hdn : sz k = c1 + 1 := by rw [hsz, sz_1 q10]
      refine lv_iload S.1 S.2.1 dJ6_getChars_ba4f3_104 (lv_at hl 4 rfl) ?_
      refine lv_if_eq (tgt := 118) S.1 S.2.1 dJ6_getChars_ba4f3_106 (by decide) (fun _ => ?_) (fun z9 => absurd (by decide) z9)
      refine lv_iload S.1 S.2.1 dJ6_getChars_ba4f3_118 (lv_at hl 0 rfl) ?_
      exact x_iret S hr hlk hS ⟨by rw [show P - (sz k + 0) = (P - c1 - 1) by omega], _, fun u hu => a1 u (by omega), fun j hj => a2 j (by omega), a3, hP, hD⟩ dJ6_getChars_ba4f3_120
    · have q10 : 10 ≤ k1 := by rcases Nat.lt_or_ge k1 10 with h | h; exact absurd ((mI_le (a := 9) (by decide) hk1).mpr (by omega)) c9; exact h
      have hz2_ := sz_2 q10 h100
      refine lv_aload_n S.1 S.2.1 dJ6_getChars_ba4f3_91 rfl (lv_at hl 3 rfl) ?_
      refine lv_iinc (v := (nI (P - (c1 + 1) - 1))) (lv' := [(5, .int (nI (P - (c1 + 1) - 1))), (0, .int (mI k1)), (1, .int (nI P)), (2, .ref v), (6, .int 0)]) S.1 S.2.1 dJ6_getChars_ba4f3_92 hl (k := 0) rfl (by rw [show P - (c1 + 1) - 1 = P - c1 - 1 - 1 from by omega]; exact nI_dec (by omega)) (by decide) rfl (fun ls hl => ?_)
      refine lv_iload S.1 S.2.1 dJ6_getChars_ba4f3_95 (lv_at hl 0 rfl) ?_
      refine va_gets S.1 S.2.1 hz2 hS S.2.2.2.1 (S.2.2.2.2 _ qw991) (fun _ h => h) dJ6_getChars_ba4f3_97 ?_
      refine lv_iload_n S.1 S.2.1 dJ6_getChars_ba4f3_100 rfl (lv_at hl 1 rfl) ?_
      refine lv_ineg S.1 S.2.1 dJ6_getChars_ba4f3_101 ?_
      rw [mI_neg]
      refine va_tb S.1 S.2.1 ht2 hS (vp_in_nI (show k1 < 100 by omega) (by decide)) (v := .int (nI (48 + k1 / 10))) (by rw [nI_clamp (by omega)]) dJ6_getChars_ba4f3_102 ?_
      refine g_bast (q0 := 1) S hK hP hD hS rfl (vp_in_nI (by omega) (by omega)) dJ6_getChars_ba4f3_103 (fun w1 H locs hw hP hD hS => ?_)
      have hw : w1 = sbW D b v m (upd (upd f1 (P - c1 - 1) (nI (48 + k1 % 10))) (nI (P - (c1 + 1) - 1)).toNatClampNeg (vp_nar .byte (nI (48 + k1 / 10)))) n := hw
      subst hw
      rw [nI_clamp (n := (P - (c1 + 1) - 1)) (by omega), vp_narB (asc_lt (by omega))] at hP hD
      obtain ⟨b_1, b_2, b_3⟩ := gc_step (k := k) (P := P) (c := c1 + 1) (x := (nI (48 + k1 / 10))) (by omega) a1 a2 a3 ((show nI (48 + k1 / 10) = nI (48 + k1 % 100 / 10) from by congr 2; omega).trans (dig_2 hkc))
      rw [show (P - (c1 + 1) - 1) = P - (c1 + 1) - 1 from by omega] at hP hD
      have hdn : sz k = c1 + 2 := by rw [hsz, hz2_]
      refine lv_iload S.1 S.2.1 dJ6_getChars_ba4f3_104 (lv_at hl 4 rfl) ?_
      refine lv_if_eq (tgt := 118) S.1 S.2.1 dJ6_getChars_ba4f3_106 (by decide) (fun _ => ?_) (fun z9 => absurd (by decide) z9)
      refine lv_iload S.1 S.2.1 dJ6_getChars_ba4f3_118 (lv_at hl 0 rfl) ?_
      exact x_iret S hr hlk hS ⟨by rw [show P - (sz k + 0) = (P - (c1 + 1) - 1) by omega], _, fun u hu => b_1 u (by omega), fun j hj => b_2 j (by omega), b_3, hP, hD⟩ dJ6_getChars_ba4f3_120
  have loop : ∀ (fu k1 c1 : Nat) (f1 : Nat → Int32) (H : Heap) (locs : List Loc) (ls : Array Slot), k1 < 100 ^ fu → k1 ≤ 2 ^ 31 → k1 = k / 10 ^ c1 → sz k = c1 + sz k1 → (∀ u, u < c1 → f1 (P - 1 - u) = dig k u) → (∀ j, j < P - c1 → f1 j = f j) → fbt f1 → va_P D vwCl (sbW D b v m f1 n) H → va_D A (sbW D b v m f1 n) → va_S A s.heap H locs → lv_has ls 7 [(0, .int (mI k1)), (1, .int (nI P)), (2, .ref v), (5, .int (nI (P - c1))), (6, .int 0)] → W pg l en ({ frames := 0, cells := 0, slots := 0, locals := 0 } : Room) s mi ar below me co H locs 0 0 (MQ below (gG A (fun V H H1 => V = some (.int (nI (P - (sz k + 0)))) ∧ ∃ (f1 : Nat → Int32), (∀ u, u < sz k → f1 (P - 1 - u) = dig k u) ∧ (∀ j, j < P - (sz k + 0) → f1 j = f j) ∧ fbt f1 ∧ va_P D vwCl (sbW D b v m f1 n) H1 ∧ va_D A (sbW D b v m f1 n))) ar s 0 0 A) (F0 mi 22 ls []) := by
    intro fu
    induction fu with
    | zero =>
      intro k1 c1 f1 H locs ls hfu hk1 hkc hsz g1 g2 g3 hP hD hS hl
      have h100 : k1 < 100 := by rw [Nat.pow_zero] at hfu; omega
      refine lv_iload_n S.1 S.2.1 dJ6_getChars_ba4f3_22 rfl (lv_at hl 0 rfl) ?_
      refine lv_bipush (v := (-100)) S.1 S.2.1 dJ6_getChars_ba4f3_23 (by decide) ?_
      refine lv_icmp_gt (tgt := 72) S.1 S.2.1 dJ6_getChars_ba4f3_25 (by decide) (fun _ => ?_) (fun z9 => absurd ((by have := (mI_le (a := k1) (b := 100) hk1 (by decide)); rw [Int32.lt_iff_toInt_lt, mI_toInt hk1]; show (-100 : Int) < _; omega)) z9)
      exact ex k1 c1 f1 H locs ls h100 hk1 hkc hsz g1 g2 g3 hP hD hS hl
    | succ fu ih =>
      intro k1 c1 f1 H locs ls hfu hk1 hkc hsz g1 g2 g3 hP hD hS hl
      refine lv_iload_n S.1 S.2.1 dJ6_getChars_ba4f3_22 rfl (lv_at hl 0 rfl) ?_
      refine lv_bipush (v := (-100)) S.1 S.2.1 dJ6_getChars_ba4f3_23 (by decide) ?_
      refine lv_icmp_gt (tgt := 72) S.1 S.2.1 dJ6_getChars_ba4f3_25 (by decide) (fun c8 => ?_) (fun c8 => ?_)
      · have h100 : k1 < 100 := by
          have h := Int32.lt_iff_toInt_lt.mp c8
          rw [mI_toInt hk1, show (-100 : Int32).toInt = -100 by decide] at h
          omega
        exact ex k1 c1 f1 H locs ls h100 hk1 hkc hsz g1 g2 g3 hP hD hS hl
      · have h100 : 100 ≤ k1 := by
          rcases Nat.lt_or_ge k1 100 with h | h
          · exact absurd (Int32.lt_iff_toInt_lt.mpr (by rw [mI_toInt hk1, show (-100 : Int32).toInt = -100 by decide]; omega)) c8
          · exact h
        have hb := sz_big h100 hk1
        have hs2 := sz_pos (k1 / 100)
        refine lv_iload_n S.1 S.2.1 dJ6_getChars_ba4f3_28 rfl (lv_at hl 0 rfl) ?_
        refine lv_bipush (v := 100) S.1 S.2.1 dJ6_getChars_ba4f3_29 (by decide) ?_
        refine lv_idiv S.1 S.2.1 dJ6_getChars_ba4f3_31 (by decide) ?_
        rw [mI_div hk1]
        refine lv_istore_n (lv' := [(3, .int (mI (k1 / 100))), (0, .int (mI k1)), (1, .int (nI P)), (2, .ref v), (5, .int (nI (P - c1))), (6, .int 0)]) S.1 S.2.1 dJ6_getChars_ba4f3_32 rfl hl (by decide) rfl (fun ls hl => ?_)
        refine lv_iload_n S.1 S.2.1 dJ6_getChars_ba4f3_33 rfl (lv_at hl 0 rfl) ?_
        refine lv_bipush (v := 100) S.1 S.2.1 dJ6_getChars_ba4f3_34 (by decide) ?_
        refine lv_imul S.1 S.2.1 dJ6_getChars_ba4f3_36 ?_
        refine lv_iload_n S.1 S.2.1 dJ6_getChars_ba4f3_37 rfl (lv_at hl 1 rfl) ?_
        refine lv_isub S.1 S.2.1 dJ6_getChars_ba4f3_38 ?_
        rw [mI_rem hk1]
        refine lv_istore (lv' := [(4, .int (nI (k1 % 100))), (3, .int (mI (k1 / 100))), (0, .int (mI k1)), (1, .int (nI P)), (2, .ref v), (5, .int (nI (P - c1))), (6, .int 0)]) S.1 S.2.1 dJ6_getChars_ba4f3_39 hl (by decide) rfl (fun ls hl => ?_)
        refine lv_iload_n S.1 S.2.1 dJ6_getChars_ba4f3_41 rfl (lv_at hl 1 rfl) ?_
        refine lv_istore_n (lv' := [(0, .int (mI (k1 / 100))), (4, .int (nI (k1 % 100))), (3, .int (mI (k1 / 100))), (1, .int (nI P)), (2, .ref v), (5, .int (nI (P - c1))), (6, .int 0)]) S.1 S.2.1 dJ6_getChars_ba4f3_42 rfl hl (by decide) rfl (fun ls hl => ?_)
        refine lv_aload_n S.1 S.2.1 dJ6_getChars_ba4f3_43 rfl (lv_at hl 4 rfl) ?_
        refine lv_iinc (v := (nI (P - c1 - 1))) (lv' := [(5, .int (nI (P - c1 - 1))), (0, .int (mI (k1 / 100))), (4, .int (nI (k1 % 100))), (3, .int (mI (k1 / 100))), (1, .int (nI P)), (2, .ref v), (6, .int 0)]) S.1 S.2.1 dJ6_getChars_ba4f3_44 hl (k := 5) rfl (nI_dec (by omega)) (by decide) rfl (fun ls hl => ?_)
        refine lv_iload S.1 S.2.1 dJ6_getChars_ba4f3_47 (lv_at hl 0 rfl) ?_
        refine va_gets S.1 S.2.1 hz1 hS S.2.2.2.1 (S.2.2.2.2 _ qw989) (fun _ h => h) dJ6_getChars_ba4f3_49 ?_
        refine lv_iload S.1 S.2.1 dJ6_getChars_ba4f3_52 (lv_at hl 2 rfl) ?_
        refine va_tb S.1 S.2.1 ht1 hS (vp_in_nI (show k1 % 100 < 100 by omega) (by decide)) (v := .int (nI (48 + k1 % 100 % 10))) (by rw [nI_clamp (by omega)]) dJ6_getChars_ba4f3_54 ?_
        refine g_bast (q0 := 1) S hK hP hD hS rfl (vp_in_nI (by omega) (by omega)) dJ6_getChars_ba4f3_55 (fun w1 H locs hw hP hD hS => ?_)
        have hw : w1 = sbW D b v m (upd f1 (nI (P - c1 - 1)).toNatClampNeg (vp_nar .byte (nI (48 + k1 % 100 % 10)))) n := hw
        subst hw
        rw [nI_clamp (n := (P - c1 - 1)) (by omega), vp_narB (asc_lt (by omega))] at hP hD
        obtain ⟨a1, a2, a3⟩ := gc_step (k := k) (P := P) (c := c1) (x := (nI (48 + k1 % 100 % 10))) (by omega) g1 g2 g3 (dig_1 hkc)
        rw [show (P - c1 - 1) = P - c1 - 1 from by omega] at hP hD
        refine lv_aload_n S.1 S.2.1 dJ6_getChars_ba4f3_56 rfl (lv_at hl 5 rfl) ?_
        refine lv_iinc (v := (nI (P - (c1 + 1) - 1))) (lv' := [(5, .int (nI (P - (c1 + 1) - 1))), (0, .int (mI (k1 / 100))), (4, .int (nI (k1 % 100))), (3, .int (mI (k1 / 100))), (1, .int (nI P)), (2, .ref v), (6, .int 0)]) S.1 S.2.1 dJ6_getChars_ba4f3_57 hl (k := 0) rfl (by rw [show P - (c1 + 1) - 1 = P - c1 - 1 - 1 from by omega]; exact nI_dec (by omega)) (by decide) rfl (fun ls hl => ?_)
        refine lv_iload S.1 S.2.1 dJ6_getChars_ba4f3_60 (lv_at hl 0 rfl) ?_
        refine va_gets S.1 S.2.1 hz2 hS S.2.2.2.1 (S.2.2.2.2 _ qw991) (fun _ h => h) dJ6_getChars_ba4f3_62 ?_
        refine lv_iload S.1 S.2.1 dJ6_getChars_ba4f3_65 (lv_at hl 2 rfl) ?_
        refine va_tb S.1 S.2.1 ht2 hS (vp_in_nI (show k1 % 100 < 100 by omega) (by decide)) (v := .int (nI (48 + k1 % 100 / 10))) (by rw [nI_clamp (by omega)]) dJ6_getChars_ba4f3_67 ?_
        refine g_bast (q0 := 1) S hK hP hD hS rfl (vp_in_nI (by omega) (by omega)) dJ6_getChars_ba4f3_68 (fun w1 H locs hw hP hD hS => ?_)
        have hw : w1 = sbW D b v m (upd (upd f1 (P - c1 - 1) (nI (48 + k1 % 100 % 10))) (nI (P - (c1 + 1) - 1)).toNatClampNeg (vp_nar .byte (nI (48 + k1 % 100 / 10)))) n := hw
        subst hw
        rw [nI_clamp (n := (P - (c1 + 1) - 1)) (by omega), vp_narB (asc_lt (by omega))] at hP hD
        obtain ⟨b_1, b_2, b_3⟩ := gc_step (k := k) (P := P) (c := c1 + 1) (x := (nI (48 + k1 % 100 / 10))) (by omega) a1 a2 a3 (dig_2 hkc)
        rw [show (P - (c1 + 1) - 1) = P - (c1 + 1) - 1 from by omega] at hP hD
        refine lv_goto (tgt := 22) S.1 S.2.1 dJ6_getChars_ba4f3_69 (by decide) ?_
        have hl2 : lv_has ls 7 [(0, .int (mI (k1 / 100))), (1, .int (nI P)), (2, .ref v), (5, .int (nI (P - (c1 + 1) - 1))), (6, .int 0)] := lv_sub hl [1, 4, 5, 0, 6] rfl
        rw [show P - (c1 + 1) - 1 = P - (c1 + 2) from by omega] at hl2
        exact ih (k1 / 100) (c1 + 2) _ _ _ _ (by rw [Nat.pow_succ] at hfu; omega) (by omega) (pow_next hkc) (by omega) b_1 b_2 b_3 hP hD hS hl2
  refine lv_iload_n S.1 S.2.1 dJ6_getChars_ba4f3_0 rfl (lv_at hl 1 rfl) ?_
  refine lv_istore (lv' := [(5, .int (nI P)), (0, .int (nI k)), (1, .int (nI P)), (2, .ref v)]) S.1 S.2.1 dJ6_getChars_ba4f3_1 hl (by decide) rfl (fun ls hl => ?_)
  refine lv_iload_n S.1 S.2.1 dJ6_getChars_ba4f3_3 rfl (lv_at hl 1 rfl) ?_
  refine lv_if_ge (tgt := 11) S.1 S.2.1 dJ6_getChars_ba4f3_4 (by decide) (fun _ => ?_) (fun z9 => absurd (nI_pos' hn) z9)
  refine lv_iconst (v := 0) S.1 S.2.1 dJ6_getChars_ba4f3_11 (by decide) ?_
  refine lv_istore (lv' := [(6, .int 0), (5, .int (nI P)), (0, .int (nI k)), (1, .int (nI P)), (2, .ref v)]) S.1 S.2.1 dJ6_getChars_ba4f3_12 hl (by decide) rfl (fun ls hl => ?_)
  refine lv_iload S.1 S.2.1 dJ6_getChars_ba4f3_14 (lv_at hl 0 rfl) ?_
  refine lv_if_ne (tgt := 22) S.1 S.2.1 dJ6_getChars_ba4f3_16 (by decide) (fun z9 => absurd (by decide) z9) (fun _ => ?_)
  refine lv_iload_n S.1 S.2.1 dJ6_getChars_ba4f3_19 rfl (lv_at hl 2 rfl) ?_
  refine lv_ineg S.1 S.2.1 dJ6_getChars_ba4f3_20 ?_
  refine lv_istore_n (lv' := [(0, .int (-(nI k))), (6, .int 0), (5, .int (nI P)), (1, .int (nI P)), (2, .ref v)]) S.1 S.2.1 dJ6_getChars_ba4f3_21 rfl hl (by decide) rfl (fun ls hl => ?_)
  have hl2 : lv_has ls 7 [(0, .int (mI k)), (1, .int (nI P)), (2, .ref v), (5, .int (nI (P - 0))), (6, .int 0)] := lv_sub hl [0, 3, 4, 2, 1] rfl
  exact loop 5 k 0 f _ _ _ (Nat.lt_of_le_of_lt hk (by decide)) hk (by rw [Nat.pow_zero, Nat.div_one]) (Nat.zero_add _).symm (fun u hu => absurd hu (Nat.not_lt_zero u)) (fun _ _ => rfl) hf hP hD hS hl2
