def f_J9_floorMod_7cf53 (a : Int32) (b : Int32) : Int32 := (if 0 ≤ (a ^^^ b) then (a - a / b * b) else (if (a - a / b * b) = 0 then (a - a / b * b) else ((a - a / b * b) + b)))
set_option maxHeartbeats 4000000 in
set_option maxRecDepth 100000 in
theorem c_J9_floorMod_7cf53 (l : Launch) (D : va_G) (A : Nat → Prop) (w : va_W) (α : Nat → Nat) (a : Int32) (b : Int32) (hy0 : ¬ b = 0) : Met l yJ9_floorMod_7cf53 (ws_ yJ9_floorMod_7cf53 cJ9_floorMod_7cf53 3 (some .int)) ({ frames := 0, cells := 0, slots := 0, locals := 0 }) (gPre D A [.int a, .int b] w) (gR (some (.int (f_J9_floorMod_7cf53 a b)))) 0 0 A := by
  refine g_met [(0, .int a), (1, .int b)] (by decide +kernel) (Nat.le_of_ble_eq_true rfl) rfl (fun pg en s mi ar below me co ls S hK hP hD hE hS hr hlk hnm hl => ?_)
  refine lv_iload_n S.1 S.2.1 dJ9_floorMod_7cf53_0 rfl (lv_at hl 0 rfl) ?_
  refine lv_iload_n S.1 S.2.1 dJ9_floorMod_7cf53_1 rfl (lv_at hl 1 rfl) ?_
  refine lv_irem S.1 S.2.1 dJ9_floorMod_7cf53_2 (hy0) ?_
  refine lv_istore_n (lv' := [(2, .int (a - a / b * b)), (0, .int a), (1, .int b)]) S.1 S.2.1 dJ9_floorMod_7cf53_3 rfl hl (by decide) rfl (fun ls hl => ?_)
  refine lv_iload_n S.1 S.2.1 dJ9_floorMod_7cf53_4 rfl (lv_at hl 1 rfl) ?_
  refine lv_iload_n S.1 S.2.1 dJ9_floorMod_7cf53_5 rfl (lv_at hl 2 rfl) ?_
  refine lv_ixor S.1 S.2.1 dJ9_floorMod_7cf53_6 ?_
  refine lv_if_ge (tgt := 18) S.1 S.2.1 dJ9_floorMod_7cf53_7 (by decide) (fun (c1 : 0 ≤ (a ^^^ b)) => ?_) (fun (c1 : ¬ 0 ≤ (a ^^^ b)) => ?_)
  · refine lv_iload_n S.1 S.2.1 dJ9_floorMod_7cf53_18 rfl (lv_at hl 0 rfl) ?_
    have hf : (f_J9_floorMod_7cf53 a b) = (a - a / b * b) := if_pos c1
    exact g_iretR S hr hlk hS (by rw [hf] <;> rfl) dJ9_floorMod_7cf53_19
  · refine lv_iload_n S.1 S.2.1 dJ9_floorMod_7cf53_10 rfl (lv_at hl 0 rfl) ?_
    refine lv_if_eq (tgt := 18) S.1 S.2.1 dJ9_floorMod_7cf53_11 (by decide) (fun (c2 : (a - a / b * b) = 0) => ?_) (fun (c2 : ¬ (a - a / b * b) = 0) => ?_)
    · refine lv_iload_n S.1 S.2.1 dJ9_floorMod_7cf53_18 rfl (lv_at hl 0 rfl) ?_
      have hf : (f_J9_floorMod_7cf53 a b) = (a - a / b * b) := (if_neg c1).trans (if_pos c2)
      exact g_iretR S hr hlk hS (by rw [hf] <;> rfl) dJ9_floorMod_7cf53_19
    · refine lv_iload_n S.1 S.2.1 dJ9_floorMod_7cf53_14 rfl (lv_at hl 0 rfl) ?_
      refine lv_iload_n S.1 S.2.1 dJ9_floorMod_7cf53_15 rfl (lv_at hl 2 rfl) ?_
      refine lv_iadd S.1 S.2.1 dJ9_floorMod_7cf53_16 ?_
      have hf : (f_J9_floorMod_7cf53 a b) = ((a - a / b * b) + b) := (if_neg c1).trans (if_neg c2)
      exact g_iretR S hr hlk hS (by rw [hf] <;> rfl) dJ9_floorMod_7cf53_17
def f_J6_bitCount_0f7a4 (x : Int32) : Int32 := ((((((((x - ((x.toUInt32 >>> ((1 : Int32).toUInt32 &&& Int32.toUInt32 31)).toInt32 &&& 1431655765)) &&& 858993459) + (((x - ((x.toUInt32 >>> ((1 : Int32).toUInt32 &&& Int32.toUInt32 31)).toInt32 &&& 1431655765)).toUInt32 >>> ((2 : Int32).toUInt32 &&& Int32.toUInt32 31)).toInt32 &&& 858993459)) + ((((x - ((x.toUInt32 >>> ((1 : Int32).toUInt32 &&& Int32.toUInt32 31)).toInt32 &&& 1431655765)) &&& 858993459) + (((x - ((x.toUInt32 >>> ((1 : Int32).toUInt32 &&& Int32.toUInt32 31)).toInt32 &&& 1431655765)).toUInt32 >>> ((2 : Int32).toUInt32 &&& Int32.toUInt32 31)).toInt32 &&& 858993459)).toUInt32 >>> ((4 : Int32).toUInt32 &&& Int32.toUInt32 31)).toInt32) &&& 252645135) + ((((((x - ((x.toUInt32 >>> ((1 : Int32).toUInt32 &&& Int32.toUInt32 31)).toInt32 &&& 1431655765)) &&& 858993459) + (((x - ((x.toUInt32 >>> ((1 : Int32).toUInt32 &&& Int32.toUInt32 31)).toInt32 &&& 1431655765)).toUInt32 >>> ((2 : Int32).toUInt32 &&& Int32.toUInt32 31)).toInt32 &&& 858993459)) + ((((x - ((x.toUInt32 >>> ((1 : Int32).toUInt32 &&& Int32.toUInt32 31)).toInt32 &&& 1431655765)) &&& 858993459) + (((x - ((x.toUInt32 >>> ((1 : Int32).toUInt32 &&& Int32.toUInt32 31)).toInt32 &&& 1431655765)).toUInt32 >>> ((2 : Int32).toUInt32 &&& Int32.toUInt32 31)).toInt32 &&& 858993459)).toUInt32 >>> ((4 : Int32).toUInt32 &&& Int32.toUInt32 31)).toInt32) &&& 252645135).toUInt32 >>> ((8 : Int32).toUInt32 &&& Int32.toUInt32 31)).toInt32) + (((((((x - ((x.toUInt32 >>> ((1 : Int32).toUInt32 &&& Int32.toUInt32 31)).toInt32 &&& 1431655765)) &&& 858993459) + (((x - ((x.toUInt32 >>> ((1 : Int32).toUInt32 &&& Int32.toUInt32 31)).toInt32 &&& 1431655765)).toUInt32 >>> ((2 : Int32).toUInt32 &&& Int32.toUInt32 31)).toInt32 &&& 858993459)) + ((((x - ((x.toUInt32 >>> ((1 : Int32).toUInt32 &&& Int32.toUInt32 31)).toInt32 &&& 1431655765)) &&& 858993459) + (((x - ((x.toUInt32 >>> ((1 : Int32).toUInt32 &&& Int32.toUInt32 31)).toInt32 &&& 1431655765)).toUInt32 >>> ((2 : Int32).toUInt32 &&& Int32.toUInt32 31)).toInt32 &&& 858993459)).toUInt32 >>> ((4 : Int32).toUInt32 &&& Int32.toUInt32 31)).toInt32) &&& 252645135) + ((((((x - ((x.toUInt32 >>> ((1 : Int32).toUInt32 &&& Int32.toUInt32 31)).toInt32 &&& 1431655765)) &&& 858993459) + (((x - ((x.toUInt32 >>> ((1 : Int32).toUInt32 &&& Int32.toUInt32 31)).toInt32 &&& 1431655765)).toUInt32 >>> ((2 : Int32).toUInt32 &&& Int32.toUInt32 31)).toInt32 &&& 858993459)) + ((((x - ((x.toUInt32 >>> ((1 : Int32).toUInt32 &&& Int32.toUInt32 31)).toInt32 &&& 1431655765)) &&& 858993459) + (((x - ((x.toUInt32 >>> ((1 : Int32).toUInt32 &&& Int32.toUInt32 31)).toInt32 &&& 1431655765)).toUInt32 >>> ((2 : Int32).toUInt32 &&& Int32.toUInt32 31)).toInt32 &&& 858993459)).toUInt32 >>> ((4 : Int32).toUInt32 &&& Int32.toUInt32 31)).toInt32) &&& 252645135).toUInt32 >>> ((8 : Int32).toUInt32 &&& Int32.toUInt32 31)).toInt32).toUInt32 >>> ((16 : Int32).toUInt32 &&& Int32.toUInt32 31)).toInt32) &&& 63)
set_option maxHeartbeats 4000000 in
set_option maxRecDepth 100000 in
theorem c_J6_bitCount_0f7a4 (l : Launch) (D : va_G) (A : Nat → Prop) (w : va_W) (α : Nat → Nat) (x : Int32) : Met l yJ6_bitCount_0f7a4 (ws_ yJ6_bitCount_0f7a4 cJ6_bitCount_0f7a4 1 (some .int)) ({ frames := 0, cells := 0, slots := 0, locals := 0 }) (gPre D A [.int x] w) (gR (some (.int (f_J6_bitCount_0f7a4 x)))) 0 0 A := by
  refine g_met [(0, .int x)] (plainFor_of_name (by decide)) (Nat.le_of_ble_eq_true rfl) rfl (fun pg en s mi ar below me co ls S hK hP hD hE hS hr hlk hnm hl => ?_)
  refine lv_iload_n S.1 S.2.1 dJ6_bitCount_0f7a4_0 rfl (lv_at hl 0 rfl) ?_
  refine lv_iload_n S.1 S.2.1 dJ6_bitCount_0f7a4_1 rfl (lv_at hl 0 rfl) ?_
  refine lv_iconst (v := 1) S.1 S.2.1 dJ6_bitCount_0f7a4_2 (by decide) ?_
  refine lv_iushr (v := (x.toUInt32 >>> ((1 : Int32).toUInt32 &&& Int32.toUInt32 31)).toInt32) S.1 S.2.1 dJ6_bitCount_0f7a4_3 rfl ?_
  refine lv_ldcw (v := 1431655765) S.1 S.2.1 S.2.2.2.1 (S.2.2.2.2 _ qw507) dJ6_bitCount_0f7a4_4 ?_
  refine lv_iand S.1 S.2.1 dJ6_bitCount_0f7a4_7 ?_
  refine lv_isub S.1 S.2.1 dJ6_bitCount_0f7a4_8 ?_
  refine lv_istore_n (lv' := [(0, .int (x - ((x.toUInt32 >>> ((1 : Int32).toUInt32 &&& Int32.toUInt32 31)).toInt32 &&& 1431655765)))]) S.1 S.2.1 dJ6_bitCount_0f7a4_9 rfl hl (by decide) rfl (fun ls hl => ?_)
  refine lv_iload_n S.1 S.2.1 dJ6_bitCount_0f7a4_10 rfl (lv_at hl 0 rfl) ?_
  refine lv_ldcw (v := 858993459) S.1 S.2.1 S.2.2.2.1 (S.2.2.2.2 _ qw508) dJ6_bitCount_0f7a4_11 ?_
  refine lv_iand S.1 S.2.1 dJ6_bitCount_0f7a4_14 ?_
  refine lv_iload_n S.1 S.2.1 dJ6_bitCount_0f7a4_15 rfl (lv_at hl 0 rfl) ?_
  refine lv_iconst (v := 2) S.1 S.2.1 dJ6_bitCount_0f7a4_16 (by decide) ?_
  refine lv_iushr (v := ((x - ((x.toUInt32 >>> ((1 : Int32).toUInt32 &&& Int32.toUInt32 31)).toInt32 &&& 1431655765)).toUInt32 >>> ((2 : Int32).toUInt32 &&& Int32.toUInt32 31)).toInt32) S.1 S.2.1 dJ6_bitCount_0f7a4_17 rfl ?_
  refine lv_ldcw (v := 858993459) S.1 S.2.1 S.2.2.2.1 (S.2.2.2.2 _ qw508) dJ6_bitCount_0f7a4_18 ?_
  refine lv_iand S.1 S.2.1 dJ6_bitCount_0f7a4_21 ?_
  refine lv_iadd S.1 S.2.1 dJ6_bitCount_0f7a4_22 ?_
  refine lv_istore_n (lv' := [(0, .int (((x - ((x.toUInt32 >>> ((1 : Int32).toUInt32 &&& Int32.toUInt32 31)).toInt32 &&& 1431655765)) &&& 858993459) + (((x - ((x.toUInt32 >>> ((1 : Int32).toUInt32 &&& Int32.toUInt32 31)).toInt32 &&& 1431655765)).toUInt32 >>> ((2 : Int32).toUInt32 &&& Int32.toUInt32 31)).toInt32 &&& 858993459)))]) S.1 S.2.1 dJ6_bitCount_0f7a4_23 rfl hl (by decide) rfl (fun ls hl => ?_)
  refine lv_iload_n S.1 S.2.1 dJ6_bitCount_0f7a4_24 rfl (lv_at hl 0 rfl) ?_
  refine lv_iload_n S.1 S.2.1 dJ6_bitCount_0f7a4_25 rfl (lv_at hl 0 rfl) ?_
  refine lv_iconst (v := 4) S.1 S.2.1 dJ6_bitCount_0f7a4_26 (by decide) ?_
  refine lv_iushr (v := ((((x - ((x.toUInt32 >>> ((1 : Int32).toUInt32 &&& Int32.toUInt32 31)).toInt32 &&& 1431655765)) &&& 858993459) + (((x - ((x.toUInt32 >>> ((1 : Int32).toUInt32 &&& Int32.toUInt32 31)).toInt32 &&& 1431655765)).toUInt32 >>> ((2 : Int32).toUInt32 &&& Int32.toUInt32 31)).toInt32 &&& 858993459)).toUInt32 >>> ((4 : Int32).toUInt32 &&& Int32.toUInt32 31)).toInt32) S.1 S.2.1 dJ6_bitCount_0f7a4_27 rfl ?_
  refine lv_iadd S.1 S.2.1 dJ6_bitCount_0f7a4_28 ?_
  refine lv_ldcw (v := 252645135) S.1 S.2.1 S.2.2.2.1 (S.2.2.2.2 _ qw509) dJ6_bitCount_0f7a4_29 ?_
  refine lv_iand S.1 S.2.1 dJ6_bitCount_0f7a4_32 ?_
  refine lv_istore_n (lv' := [(0, .int (((((x - ((x.toUInt32 >>> ((1 : Int32).toUInt32 &&& Int32.toUInt32 31)).toInt32 &&& 1431655765)) &&& 858993459) + (((x - ((x.toUInt32 >>> ((1 : Int32).toUInt32 &&& Int32.toUInt32 31)).toInt32 &&& 1431655765)).toUInt32 >>> ((2 : Int32).toUInt32 &&& Int32.toUInt32 31)).toInt32 &&& 858993459)) + ((((x - ((x.toUInt32 >>> ((1 : Int32).toUInt32 &&& Int32.toUInt32 31)).toInt32 &&& 1431655765)) &&& 858993459) + (((x - ((x.toUInt32 >>> ((1 : Int32).toUInt32 &&& Int32.toUInt32 31)).toInt32 &&& 1431655765)).toUInt32 >>> ((2 : Int32).toUInt32 &&& Int32.toUInt32 31)).toInt32 &&& 858993459)).toUInt32 >>> ((4 : Int32).toUInt32 &&& Int32.toUInt32 31)).toInt32) &&& 252645135))]) S.1 S.2.1 dJ6_bitCount_0f7a4_33 rfl hl (by decide) rfl (fun ls hl => ?_)
  refine lv_iload_n S.1 S.2.1 dJ6_bitCount_0f7a4_34 rfl (lv_at hl 0 rfl) ?_
  refine lv_iload_n S.1 S.2.1 dJ6_bitCount_0f7a4_35 rfl (lv_at hl 0 rfl) ?_
  refine lv_bipush (v := 8) S.1 S.2.1 dJ6_bitCount_0f7a4_36 (by decide) ?_
  refine lv_iushr (v := ((((((x - ((x.toUInt32 >>> ((1 : Int32).toUInt32 &&& Int32.toUInt32 31)).toInt32 &&& 1431655765)) &&& 858993459) + (((x - ((x.toUInt32 >>> ((1 : Int32).toUInt32 &&& Int32.toUInt32 31)).toInt32 &&& 1431655765)).toUInt32 >>> ((2 : Int32).toUInt32 &&& Int32.toUInt32 31)).toInt32 &&& 858993459)) + ((((x - ((x.toUInt32 >>> ((1 : Int32).toUInt32 &&& Int32.toUInt32 31)).toInt32 &&& 1431655765)) &&& 858993459) + (((x - ((x.toUInt32 >>> ((1 : Int32).toUInt32 &&& Int32.toUInt32 31)).toInt32 &&& 1431655765)).toUInt32 >>> ((2 : Int32).toUInt32 &&& Int32.toUInt32 31)).toInt32 &&& 858993459)).toUInt32 >>> ((4 : Int32).toUInt32 &&& Int32.toUInt32 31)).toInt32) &&& 252645135).toUInt32 >>> ((8 : Int32).toUInt32 &&& Int32.toUInt32 31)).toInt32) S.1 S.2.1 dJ6_bitCount_0f7a4_38 rfl ?_
  refine lv_iadd S.1 S.2.1 dJ6_bitCount_0f7a4_39 ?_
  refine lv_istore_n (lv' := [(0, .int ((((((x - ((x.toUInt32 >>> ((1 : Int32).toUInt32 &&& Int32.toUInt32 31)).toInt32 &&& 1431655765)) &&& 858993459) + (((x - ((x.toUInt32 >>> ((1 : Int32).toUInt32 &&& Int32.toUInt32 31)).toInt32 &&& 1431655765)).toUInt32 >>> ((2 : Int32).toUInt32 &&& Int32.toUInt32 31)).toInt32 &&& 858993459)) + ((((x - ((x.toUInt32 >>> ((1 : Int32).toUInt32 &&& Int32.toUInt32 31)).toInt32 &&& 1431655765)) &&& 858993459) + (((x - ((x.toUInt32 >>> ((1 : Int32).toUInt32 &&& Int32.toUInt32 31)).toInt32 &&& 1431655765)).toUInt32 >>> ((2 : Int32).toUInt32 &&& Int32.toUInt32 31)).toInt32 &&& 858993459)).toUInt32 >>> ((4 : Int32).toUInt32 &&& Int32.toUInt32 31)).toInt32) &&& 252645135) + ((((((x - ((x.toUInt32 >>> ((1 : Int32).toUInt32 &&& Int32.toUInt32 31)).toInt32 &&& 1431655765)) &&& 858993459) + (((x - ((x.toUInt32 >>> ((1 : Int32).toUInt32 &&& Int32.toUInt32 31)).toInt32 &&& 1431655765)).toUInt32 >>> ((2 : Int32).toUInt32 &&& Int32.toUInt32 31)).toInt32 &&& 858993459)) + ((((x - ((x.toUInt32 >>> ((1 : Int32).toUInt32 &&& Int32.toUInt32 31)).toInt32 &&& 1431655765)) &&& 858993459) + (((x - ((x.toUInt32 >>> ((1 : Int32).toUInt32 &&& Int32.toUInt32 31)).toInt32 &&& 1431655765)).toUInt32 >>> ((2 : Int32).toUInt32 &&& Int32.toUInt32 31)).toInt32 &&& 858993459)).toUInt32 >>> ((4 : Int32).toUInt32 &&& Int32.toUInt32 31)).toInt32) &&& 252645135).toUInt32 >>> ((8 : Int32).toUInt32 &&& Int32.toUInt32 31)).toInt32))]) S.1 S.2.1 dJ6_bitCount_0f7a4_40 rfl hl (by decide) rfl (fun ls hl => ?_)
  refine lv_iload_n S.1 S.2.1 dJ6_bitCount_0f7a4_41 rfl (lv_at hl 0 rfl) ?_
  refine lv_iload_n S.1 S.2.1 dJ6_bitCount_0f7a4_42 rfl (lv_at hl 0 rfl) ?_
  refine lv_bipush (v := 16) S.1 S.2.1 dJ6_bitCount_0f7a4_43 (by decide) ?_
  refine lv_iushr (v := (((((((x - ((x.toUInt32 >>> ((1 : Int32).toUInt32 &&& Int32.toUInt32 31)).toInt32 &&& 1431655765)) &&& 858993459) + (((x - ((x.toUInt32 >>> ((1 : Int32).toUInt32 &&& Int32.toUInt32 31)).toInt32 &&& 1431655765)).toUInt32 >>> ((2 : Int32).toUInt32 &&& Int32.toUInt32 31)).toInt32 &&& 858993459)) + ((((x - ((x.toUInt32 >>> ((1 : Int32).toUInt32 &&& Int32.toUInt32 31)).toInt32 &&& 1431655765)) &&& 858993459) + (((x - ((x.toUInt32 >>> ((1 : Int32).toUInt32 &&& Int32.toUInt32 31)).toInt32 &&& 1431655765)).toUInt32 >>> ((2 : Int32).toUInt32 &&& Int32.toUInt32 31)).toInt32 &&& 858993459)).toUInt32 >>> ((4 : Int32).toUInt32 &&& Int32.toUInt32 31)).toInt32) &&& 252645135) + ((((((x - ((x.toUInt32 >>> ((1 : Int32).toUInt32 &&& Int32.toUInt32 31)).toInt32 &&& 1431655765)) &&& 858993459) + (((x - ((x.toUInt32 >>> ((1 : Int32).toUInt32 &&& Int32.toUInt32 31)).toInt32 &&& 1431655765)).toUInt32 >>> ((2 : Int32).toUInt32 &&& Int32.toUInt32 31)).toInt32 &&& 858993459)) + ((((x - ((x.toUInt32 >>> ((1 : Int32).toUInt32 &&& Int32.toUInt32 31)).toInt32 &&& 1431655765)) &&& 858993459) + (((x - ((x.toUInt32 >>> ((1 : Int32).toUInt32 &&& Int32.toUInt32 31)).toInt32 &&& 1431655765)).toUInt32 >>> ((2 : Int32).toUInt32 &&& Int32.toUInt32 31)).toInt32 &&& 858993459)).toUInt32 >>> ((4 : Int32).toUInt32 &&& Int32.toUInt32 31)).toInt32) &&& 252645135).toUInt32 >>> ((8 : Int32).toUInt32 &&& Int32.toUInt32 31)).toInt32).toUInt32 >>> ((16 : Int32).toUInt32 &&& Int32.toUInt32 31)).toInt32) S.1 S.2.1 dJ6_bitCount_0f7a4_45 rfl ?_
  refine lv_iadd S.1 S.2.1 dJ6_bitCount_0f7a4_46 ?_
  refine lv_istore_n (lv' := [(0, .int (((((((x - ((x.toUInt32 >>> ((1 : Int32).toUInt32 &&& Int32.toUInt32 31)).toInt32 &&& 1431655765)) &&& 858993459) + (((x - ((x.toUInt32 >>> ((1 : Int32).toUInt32 &&& Int32.toUInt32 31)).toInt32 &&& 1431655765)).toUInt32 >>> ((2 : Int32).toUInt32 &&& Int32.toUInt32 31)).toInt32 &&& 858993459)) + ((((x - ((x.toUInt32 >>> ((1 : Int32).toUInt32 &&& Int32.toUInt32 31)).toInt32 &&& 1431655765)) &&& 858993459) + (((x - ((x.toUInt32 >>> ((1 : Int32).toUInt32 &&& Int32.toUInt32 31)).toInt32 &&& 1431655765)).toUInt32 >>> ((2 : Int32).toUInt32 &&& Int32.toUInt32 31)).toInt32 &&& 858993459)).toUInt32 >>> ((4 : Int32).toUInt32 &&& Int32.toUInt32 31)).toInt32) &&& 252645135) + ((((((x - ((x.toUInt32 >>> ((1 : Int32).toUInt32 &&& Int32.toUInt32 31)).toInt32 &&& 1431655765)) &&& 858993459) + (((x - ((x.toUInt32 >>> ((1 : Int32).toUInt32 &&& Int32.toUInt32 31)).toInt32 &&& 1431655765)).toUInt32 >>> ((2 : Int32).toUInt32 &&& Int32.toUInt32 31)).toInt32 &&& 858993459)) + ((((x - ((x.toUInt32 >>> ((1 : Int32).toUInt32 &&& Int32.toUInt32 31)).toInt32 &&& 1431655765)) &&& 858993459) + (((x - ((x.toUInt32 >>> ((1 : Int32).toUInt32 &&& Int32.toUInt32 31)).toInt32 &&& 1431655765)).toUInt32 >>> ((2 : Int32).toUInt32 &&& Int32.toUInt32 31)).toInt32 &&& 858993459)).toUInt32 >>> ((4 : Int32).toUInt32 &&& Int32.toUInt32 31)).toInt32) &&& 252645135).toUInt32 >>> ((8 : Int32).toUInt32 &&& Int32.toUInt32 31)).toInt32) + (((((((x - ((x.toUInt32 >>> ((1 : Int32).toUInt32 &&& Int32.toUInt32 31)).toInt32 &&& 1431655765)) &&& 858993459) + (((x - ((x.toUInt32 >>> ((1 : Int32).toUInt32 &&& Int32.toUInt32 31)).toInt32 &&& 1431655765)).toUInt32 >>> ((2 : Int32).toUInt32 &&& Int32.toUInt32 31)).toInt32 &&& 858993459)) + ((((x - ((x.toUInt32 >>> ((1 : Int32).toUInt32 &&& Int32.toUInt32 31)).toInt32 &&& 1431655765)) &&& 858993459) + (((x - ((x.toUInt32 >>> ((1 : Int32).toUInt32 &&& Int32.toUInt32 31)).toInt32 &&& 1431655765)).toUInt32 >>> ((2 : Int32).toUInt32 &&& Int32.toUInt32 31)).toInt32 &&& 858993459)).toUInt32 >>> ((4 : Int32).toUInt32 &&& Int32.toUInt32 31)).toInt32) &&& 252645135) + ((((((x - ((x.toUInt32 >>> ((1 : Int32).toUInt32 &&& Int32.toUInt32 31)).toInt32 &&& 1431655765)) &&& 858993459) + (((x - ((x.toUInt32 >>> ((1 : Int32).toUInt32 &&& Int32.toUInt32 31)).toInt32 &&& 1431655765)).toUInt32 >>> ((2 : Int32).toUInt32 &&& Int32.toUInt32 31)).toInt32 &&& 858993459)) + ((((x - ((x.toUInt32 >>> ((1 : Int32).toUInt32 &&& Int32.toUInt32 31)).toInt32 &&& 1431655765)) &&& 858993459) + (((x - ((x.toUInt32 >>> ((1 : Int32).toUInt32 &&& Int32.toUInt32 31)).toInt32 &&& 1431655765)).toUInt32 >>> ((2 : Int32).toUInt32 &&& Int32.toUInt32 31)).toInt32 &&& 858993459)).toUInt32 >>> ((4 : Int32).toUInt32 &&& Int32.toUInt32 31)).toInt32) &&& 252645135).toUInt32 >>> ((8 : Int32).toUInt32 &&& Int32.toUInt32 31)).toInt32).toUInt32 >>> ((16 : Int32).toUInt32 &&& Int32.toUInt32 31)).toInt32))]) S.1 S.2.1 dJ6_bitCount_0f7a4_47 rfl hl (by decide) rfl (fun ls hl => ?_)
  refine lv_iload_n S.1 S.2.1 dJ6_bitCount_0f7a4_48 rfl (lv_at hl 0 rfl) ?_
  refine lv_bipush (v := 63) S.1 S.2.1 dJ6_bitCount_0f7a4_49 (by decide) ?_
  refine lv_iand S.1 S.2.1 dJ6_bitCount_0f7a4_51 ?_
  have hf : (f_J6_bitCount_0f7a4 x) = ((((((((x - ((x.toUInt32 >>> ((1 : Int32).toUInt32 &&& Int32.toUInt32 31)).toInt32 &&& 1431655765)) &&& 858993459) + (((x - ((x.toUInt32 >>> ((1 : Int32).toUInt32 &&& Int32.toUInt32 31)).toInt32 &&& 1431655765)).toUInt32 >>> ((2 : Int32).toUInt32 &&& Int32.toUInt32 31)).toInt32 &&& 858993459)) + ((((x - ((x.toUInt32 >>> ((1 : Int32).toUInt32 &&& Int32.toUInt32 31)).toInt32 &&& 1431655765)) &&& 858993459) + (((x - ((x.toUInt32 >>> ((1 : Int32).toUInt32 &&& Int32.toUInt32 31)).toInt32 &&& 1431655765)).toUInt32 >>> ((2 : Int32).toUInt32 &&& Int32.toUInt32 31)).toInt32 &&& 858993459)).toUInt32 >>> ((4 : Int32).toUInt32 &&& Int32.toUInt32 31)).toInt32) &&& 252645135) + ((((((x - ((x.toUInt32 >>> ((1 : Int32).toUInt32 &&& Int32.toUInt32 31)).toInt32 &&& 1431655765)) &&& 858993459) + (((x - ((x.toUInt32 >>> ((1 : Int32).toUInt32 &&& Int32.toUInt32 31)).toInt32 &&& 1431655765)).toUInt32 >>> ((2 : Int32).toUInt32 &&& Int32.toUInt32 31)).toInt32 &&& 858993459)) + ((((x - ((x.toUInt32 >>> ((1 : Int32).toUInt32 &&& Int32.toUInt32 31)).toInt32 &&& 1431655765)) &&& 858993459) + (((x - ((x.toUInt32 >>> ((1 : Int32).toUInt32 &&& Int32.toUInt32 31)).toInt32 &&& 1431655765)).toUInt32 >>> ((2 : Int32).toUInt32 &&& Int32.toUInt32 31)).toInt32 &&& 858993459)).toUInt32 >>> ((4 : Int32).toUInt32 &&& Int32.toUInt32 31)).toInt32) &&& 252645135).toUInt32 >>> ((8 : Int32).toUInt32 &&& Int32.toUInt32 31)).toInt32) + (((((((x - ((x.toUInt32 >>> ((1 : Int32).toUInt32 &&& Int32.toUInt32 31)).toInt32 &&& 1431655765)) &&& 858993459) + (((x - ((x.toUInt32 >>> ((1 : Int32).toUInt32 &&& Int32.toUInt32 31)).toInt32 &&& 1431655765)).toUInt32 >>> ((2 : Int32).toUInt32 &&& Int32.toUInt32 31)).toInt32 &&& 858993459)) + ((((x - ((x.toUInt32 >>> ((1 : Int32).toUInt32 &&& Int32.toUInt32 31)).toInt32 &&& 1431655765)) &&& 858993459) + (((x - ((x.toUInt32 >>> ((1 : Int32).toUInt32 &&& Int32.toUInt32 31)).toInt32 &&& 1431655765)).toUInt32 >>> ((2 : Int32).toUInt32 &&& Int32.toUInt32 31)).toInt32 &&& 858993459)).toUInt32 >>> ((4 : Int32).toUInt32 &&& Int32.toUInt32 31)).toInt32) &&& 252645135) + ((((((x - ((x.toUInt32 >>> ((1 : Int32).toUInt32 &&& Int32.toUInt32 31)).toInt32 &&& 1431655765)) &&& 858993459) + (((x - ((x.toUInt32 >>> ((1 : Int32).toUInt32 &&& Int32.toUInt32 31)).toInt32 &&& 1431655765)).toUInt32 >>> ((2 : Int32).toUInt32 &&& Int32.toUInt32 31)).toInt32 &&& 858993459)) + ((((x - ((x.toUInt32 >>> ((1 : Int32).toUInt32 &&& Int32.toUInt32 31)).toInt32 &&& 1431655765)) &&& 858993459) + (((x - ((x.toUInt32 >>> ((1 : Int32).toUInt32 &&& Int32.toUInt32 31)).toInt32 &&& 1431655765)).toUInt32 >>> ((2 : Int32).toUInt32 &&& Int32.toUInt32 31)).toInt32 &&& 858993459)).toUInt32 >>> ((4 : Int32).toUInt32 &&& Int32.toUInt32 31)).toInt32) &&& 252645135).toUInt32 >>> ((8 : Int32).toUInt32 &&& Int32.toUInt32 31)).toInt32).toUInt32 >>> ((16 : Int32).toUInt32 &&& Int32.toUInt32 31)).toInt32) &&& 63) := rfl
  exact g_iretR S hr hlk hS (by rw [hf] <;> rfl) dJ6_bitCount_0f7a4_52
def f_X11_cell (rown : Nat) (rowf : Nat → Int32) (i : Int32) (o : Int32) : Int32 := (if i < 0 then o else (if (nI rown) ≤ i then o else (rowf i.toNatClampNeg)))
set_option maxHeartbeats 4000000 in
set_option maxRecDepth 100000 in
theorem c_X11_cell (l : Launch) (D : va_G) (A : Nat → Prop) (w : va_W) (α : Nat → Nat) (row : Nat) (rown : Nat) (rowf : Nat → Int32) (i : Int32) (o : Int32) (hB0 : w[row]? = some (cI D α row rown rowf)) (hy0 : rown < 2147483648) : Met l yX11_cell (ws_ yX11_cell cX11_cell 3 (some .int)) ({ frames := 0, cells := 0, slots := 0, locals := 0 }) (gPre D A [.ref (α (row)), .int i, .int o] w) (gR (some (.int (f_X11_cell rown rowf i o)))) 0 0 A := by
  refine g_met [(0, .ref (α (row))), (1, .int i), (2, .int o)] (plainFor_of_name (by decide)) (Nat.le_of_ble_eq_true rfl) rfl (fun pg en s mi ar below me co ls S hK hP hD hE hS hr hlk hnm hl => ?_)
  refine lv_iload_n S.1 S.2.1 dX11_cell_0 rfl (lv_at hl 1 rfl) ?_
  refine lv_if_lt (tgt := 16) S.1 S.2.1 dX11_cell_1 (by decide) (fun (c1 : i < 0) => ?_) (fun (c1 : ¬ i < 0) => ?_)
  · refine lv_iload_n S.1 S.2.1 dX11_cell_16 rfl (lv_at hl 2 rfl) ?_
    have hf : (f_X11_cell rown rowf i o) = o := if_pos c1
    exact g_iretR S hr hlk hS (by rw [hf] <;> rfl) dX11_cell_17
  · refine lv_iload_n S.1 S.2.1 dX11_cell_4 rfl (lv_at hl 1 rfl) ?_
    refine lv_aload_n S.1 S.2.1 dX11_cell_5 rfl (lv_at hl 0 rfl) ?_
    refine g_alen (v := (nI rown)) S hK hP hB0 0 rfl rfl dX11_cell_6 ?_
    refine lv_icmp_ge (tgt := 16) S.1 S.2.1 dX11_cell_7 (by decide) (fun (c2 : (nI rown) ≤ i) => ?_) (fun (c2 : ¬ (nI rown) ≤ i) => ?_)
    · refine lv_iload_n S.1 S.2.1 dX11_cell_16 rfl (lv_at hl 2 rfl) ?_
      have hf : (f_X11_cell rown rowf i o) = o := (if_neg c1).trans (if_pos c2)
      exact g_iretR S hr hlk hS (by rw [hf] <;> rfl) dX11_cell_17
    · refine lv_aload_n S.1 S.2.1 dX11_cell_10 rfl (lv_at hl 0 rfl) ?_
      refine lv_iload_n S.1 S.2.1 dX11_cell_11 rfl (lv_at hl 1 rfl) ?_
      refine g_iald S hK hP hB0 (vin_of hy0 c1 c2) dX11_cell_12 ?_
      refine lv_goto (tgt := 17) S.1 S.2.1 dX11_cell_13 (by decide) ?_
      have hf : (f_X11_cell rown rowf i o) = (rowf i.toNatClampNeg) := (if_neg c1).trans (if_neg c2)
      exact g_iretR S hr hlk hS (by rw [hf] <;> rfl) dX11_cell_17
def f_X11_setCell (rown : Nat) (rowf : Nat → Int32) (i : Int32) (v : Int32) : (Nat → Int32) := (if i < 0 then rowf else (if (nI rown) ≤ i then rowf else (upd rowf i.toNatClampNeg v)))
set_option maxHeartbeats 4000000 in
set_option maxRecDepth 100000 in
theorem c_X11_setCell (l : Launch) (D : va_G) (A : Nat → Prop) (w : va_W) (α : Nat → Nat) (row : Nat) (rown : Nat) (rowf : Nat → Int32) (i : Int32) (v : Int32) (hB0 : w[row]? = some (cI D α row rown rowf)) (hy0 : rown < 2147483648) : Met l yX11_setCell (ws_ yX11_setCell cX11_setCell 3 none) ({ frames := 0, cells := 0, slots := 0, locals := 0 }) (gPre D A [.ref (α (row)), .int i, .int v] w) (gQ D A none (fun w1 => w1 = w.set row (cI D α row rown (f_X11_setCell rown rowf i v)))) 0 0 A := by
  refine g_met [(0, .ref (α (row))), (1, .int i), (2, .int v)] (plainFor_of_name (by decide)) (Nat.le_of_ble_eq_true rfl) rfl (fun pg en s mi ar below me co ls S hK hP hD hE hS hr hlk hnm hl => ?_)
  have hW : w = w.set row (cI D α row rown rowf) := lset_self hB0
  refine lv_iload_n S.1 S.2.1 dX11_setCell_0 rfl (lv_at hl 1 rfl) ?_
  refine lv_if_lt (tgt := 14) S.1 S.2.1 dX11_setCell_1 (by decide) (fun (c1 : i < 0) => ?_) (fun (c1 : ¬ i < 0) => ?_)
  · have hf : (f_X11_setCell rown rowf i v) = rowf := if_pos c1
    exact g_vret S hr hlk hP hD hS (rfl) (by rw [hf]; exact hW) dX11_setCell_14
  · refine lv_iload_n S.1 S.2.1 dX11_setCell_4 rfl (lv_at hl 1 rfl) ?_
    refine lv_aload_n S.1 S.2.1 dX11_setCell_5 rfl (lv_at hl 0 rfl) ?_
    refine g_alen (v := (nI rown)) S hK hP (lset_at hB0 hW) 0 rfl rfl dX11_setCell_6 ?_
    refine lv_icmp_ge (tgt := 14) S.1 S.2.1 dX11_setCell_7 (by decide) (fun (c2 : (nI rown) ≤ i) => ?_) (fun (c2 : ¬ (nI rown) ≤ i) => ?_)
    · have hf : (f_X11_setCell rown rowf i v) = rowf := (if_neg c1).trans (if_pos c2)
      exact g_vret S hr hlk hP hD hS (rfl) (by rw [hf]; exact hW) dX11_setCell_14
    · refine lv_aload_n S.1 S.2.1 dX11_setCell_10 rfl (lv_at hl 0 rfl) ?_
      refine lv_iload_n S.1 S.2.1 dX11_setCell_11 rfl (lv_at hl 1 rfl) ?_
      refine lv_iload_n S.1 S.2.1 dX11_setCell_12 rfl (lv_at hl 2 rfl) ?_
      refine g_iast S hK hP hD hS (lset_at hB0 hW) (vin_of hy0 c1 c2) dX11_setCell_13 (fun w1 H locs hw hP hD hS => ?_)
      have hW : w1 = w.set row (cI D α row rown (upd rowf i.toNatClampNeg v)) := hw.trans (by rw [hW, List.set_set])
      have hf : (f_X11_setCell rown rowf i v) = (upd rowf i.toNatClampNeg v) := (if_neg c1).trans (if_neg c2)
      exact g_vret S hr hlk hP hD hS (rfl) (by rw [hf]; exact hW) dX11_setCell_14
def L_X11_fillRow_2 (rowf : Nat → Int32) (v : Int32) : Nat → (Nat → Int32) := iter_ (fun n sn => (upd sn (nI n).toNatClampNeg v)) rowf
def f_X11_fillRow (rown : Nat) (rowf : Nat → Int32) (v : Int32) : (Nat → Int32) := (L_X11_fillRow_2 rowf v rown)
set_option maxHeartbeats 4000000 in
set_option maxRecDepth 100000 in
theorem c_X11_fillRow (l : Launch) (D : va_G) (A : Nat → Prop) (w : va_W) (α : Nat → Nat) (row : Nat) (rown : Nat) (rowf : Nat → Int32) (v : Int32) (hB0 : w[row]? = some (cI D α row rown rowf)) (hy0 : rown < 2147483648) : Met l yX11_fillRow (ws_ yX11_fillRow cX11_fillRow 3 none) ({ frames := 0, cells := 0, slots := 0, locals := 0 }) (gPre D A [.ref (α (row)), .int v] w) (gQ D A none (fun w1 => w1 = w.set row (cI D α row rown (f_X11_fillRow rown rowf v)))) 0 0 A := by
  refine g_met [(0, .ref (α (row))), (1, .int v)] (plainFor_of_name (by decide)) (Nat.le_of_ble_eq_true rfl) rfl (fun pg en s mi ar below me co ls S hK hP hD hE hS hr hlk hnm hl => ?_)
  have hW : w = w.set row (cI D α row rown rowf) := lset_self hB0
  refine lv_iconst (v := 0) S.1 S.2.1 dX11_fillRow_0 (by decide) ?_
  refine lv_istore_n (lv' := [(2, .int 0), (0, .ref (α (row))), (1, .int v)]) S.1 S.2.1 dX11_fillRow_1 rfl hl (by decide) rfl (fun ls hl => ?_)
  have lp2 : ∀ (j n : Nat), n + j = rown → ∀ (wl : va_W) (H : Heap) (locs : List Loc) (ls : Array Slot), va_P D vwCl wl H → va_D A wl → va_S A s.heap H locs → wl = w.set row (cI D α row rown (L_X11_fillRow_2 rowf v n)) → lv_has ls 3 [(2, .int (nI n)), (0, .ref (α (row))), (1, .int v)] → W pg l en ({ frames := 0, cells := 0, slots := 0, locals := 0 } : Room) s mi ar below me co H locs 0 0 (MQ below (gQ D A none (fun w1 => w1 = w.set row (cI D α row rown (f_X11_fillRow rown rowf v)))) ar s 0 0 A) (F0 mi 2 ls []) := by
    intro j
    induction j with
    | zero =>
      intro n hn wl H locs ls hP hD hS hW hl
      have hn : rown = n := hn.symm
      subst hn
      refine lv_iload_n S.1 S.2.1 dX11_fillRow_2 rfl (lv_at hl 0 rfl) ?_
      refine lv_aload_n S.1 S.2.1 dX11_fillRow_3 rfl (lv_at hl 1 rfl) ?_
      refine g_alen (v := (nI rown)) S hK hP (lset_at hB0 hW) 0 rfl rfl dX11_fillRow_4 ?_
      refine lv_icmp_ge (tgt := 18) S.1 S.2.1 dX11_fillRow_5 (by decide) (fun (c1 : (nI rown) ≤ (nI rown)) => ?_) (fun (c1 : ¬ (nI rown) ≤ (nI rown)) => absurd c1 (lp_out (s := 0) (by rw [nI_clamp (by omega)]; omega)))
      have hf : (f_X11_fillRow rown rowf v) = (L_X11_fillRow_2 rowf v rown) := rfl
      exact g_vret S hr hlk hP hD hS (rfl) (by rw [hf]; exact hW) dX11_fillRow_18
    | succ j ih =>
      intro n hn wl H locs ls hP hD hS hW hl
      refine lv_iload_n S.1 S.2.1 dX11_fillRow_2 rfl (lv_at hl 0 rfl) ?_
      refine lv_aload_n S.1 S.2.1 dX11_fillRow_3 rfl (lv_at hl 1 rfl) ?_
      refine g_alen (v := (nI rown)) S hK hP (lset_at hB0 hW) 0 rfl rfl dX11_fillRow_4 ?_
      refine lv_icmp_ge (tgt := 18) S.1 S.2.1 dX11_fillRow_5 (by decide) (fun (c2 : (nI rown) ≤ (nI n)) => absurd c2 (lp_in (s := 0) ((nI_clamp (by omega)).symm) hn)) (fun (c2 : ¬ (nI rown) ≤ (nI n)) => ?_)
      refine lv_aload_n S.1 S.2.1 dX11_fillRow_8 rfl (lv_at hl 1 rfl) ?_
      refine lv_iload_n S.1 S.2.1 dX11_fillRow_9 rfl (lv_at hl 0 rfl) ?_
      refine lv_iload_n S.1 S.2.1 dX11_fillRow_10 rfl (lv_at hl 2 rfl) ?_
      refine g_iast S hK hP hD hS (lset_at hB0 hW) (vp_in_nI (by omega) hy0) dX11_fillRow_11 (fun w1 H locs hw hP hD hS => ?_)
      have hW : w1 = w.set row (cI D α row rown (upd (L_X11_fillRow_2 rowf v n) (nI n).toNatClampNeg v)) := hw.trans (by rw [hW, List.set_set])
      refine lv_iinc (v := (nI (n + 1))) (lv' := [(2, .int (nI (n + 1))), (0, .ref (α (row))), (1, .int v)]) S.1 S.2.1 dX11_fillRow_12 hl (k := 0) rfl ((nI_succ n).symm) (by decide) rfl (fun ls hl => ?_)
      refine lv_goto (tgt := 2) S.1 S.2.1 dX11_fillRow_15 (by decide) ?_
      have hL : (L_X11_fillRow_2 rowf v (n + 1)) = (upd (L_X11_fillRow_2 rowf v n) (nI n).toNatClampNeg v) := (iter_s _ _ _).trans (rfl)
      refine ih (n + 1) (by omega) _ _ _ _ hP hD hS ?_ ?_
      · rw [hL]; exact hW
      · exact lv_sub hl [0, 1, 2] rfl
  have hL0 : (L_X11_fillRow_2 rowf v 0) = rowf := iter_z _ _
  exact lp2 rown 0 (Nat.zero_add _) _ _ _ _ hP hD hS (by rw [hL0]; exact hW) (lv_sub hl [0, 1, 2] rfl)
def f_X11_isIn (i : Int32) (b : Int32) : Bool := (if i < 0 then false else (if b ≤ i then false else true))
set_option maxHeartbeats 4000000 in
set_option maxRecDepth 100000 in
theorem c_X11_isIn (l : Launch) (D : va_G) (A : Nat → Prop) (w : va_W) (α : Nat → Nat) (i : Int32) (b : Int32) : Met l yX11_isIn (ws_ yX11_isIn cX11_isIn 2 (some .boolean)) ({ frames := 0, cells := 0, slots := 0, locals := 0 }) (gPre D A [.int i, .int b] w) (gR (some (.int (b2i (f_X11_isIn i b))))) 0 0 A := by
  refine g_met [(0, .int i), (1, .int b)] (plainFor_of_name (by decide)) (Nat.le_of_ble_eq_true rfl) rfl (fun pg en s mi ar below me co ls S hK hP hD hE hS hr hlk hnm hl => ?_)
  refine lv_iload_n S.1 S.2.1 dX11_isIn_0 rfl (lv_at hl 0 rfl) ?_
  refine lv_if_lt (tgt := 13) S.1 S.2.1 dX11_isIn_1 (by decide) (fun (c1 : i < 0) => ?_) (fun (c1 : ¬ i < 0) => ?_)
  · refine lv_iconst (v := 0) S.1 S.2.1 dX11_isIn_13 (by decide) ?_
    have hf : (f_X11_isIn i b) = false := if_pos c1
    exact g_zretR S hr hlk hS rfl (by rw [hf] <;> rfl) dX11_isIn_14
  · refine lv_iload_n S.1 S.2.1 dX11_isIn_4 rfl (lv_at hl 0 rfl) ?_
    refine lv_iload_n S.1 S.2.1 dX11_isIn_5 rfl (lv_at hl 1 rfl) ?_
    refine lv_icmp_ge (tgt := 13) S.1 S.2.1 dX11_isIn_6 (by decide) (fun (c2 : b ≤ i) => ?_) (fun (c2 : ¬ b ≤ i) => ?_)
    · refine lv_iconst (v := 0) S.1 S.2.1 dX11_isIn_13 (by decide) ?_
      have hf : (f_X11_isIn i b) = false := (if_neg c1).trans (if_pos c2)
      exact g_zretR S hr hlk hS rfl (by rw [hf] <;> rfl) dX11_isIn_14
    · refine lv_iconst (v := 1) S.1 S.2.1 dX11_isIn_9 (by decide) ?_
      refine lv_goto (tgt := 14) S.1 S.2.1 dX11_isIn_10 (by decide) ?_
      have hf : (f_X11_isIn i b) = true := (if_neg c1).trans (if_neg c2)
      exact g_zretR S hr hlk hS rfl (by rw [hf] <;> rfl) dX11_isIn_14
def f_X11_isDays (d : Int32) : Bool := (if d < 1 then false else (if 99 < d then false else true))
set_option maxHeartbeats 4000000 in
set_option maxRecDepth 100000 in
theorem c_X11_isDays (l : Launch) (D : va_G) (A : Nat → Prop) (w : va_W) (α : Nat → Nat) (d : Int32) : Met l yX11_isDays (ws_ yX11_isDays cX11_isDays 1 (some .boolean)) ({ frames := 0, cells := 0, slots := 0, locals := 0 }) (gPre D A [.int d] w) (gR (some (.int (b2i (f_X11_isDays d))))) 0 0 A := by
  refine g_met [(0, .int d)] (plainFor_of_name (by decide)) (Nat.le_of_ble_eq_true rfl) rfl (fun pg en s mi ar below me co ls S hK hP hD hE hS hr hlk hnm hl => ?_)
  refine lv_iload_n S.1 S.2.1 dX11_isDays_0 rfl (lv_at hl 0 rfl) ?_
  refine lv_iconst (v := 1) S.1 S.2.1 dX11_isDays_1 (by decide) ?_
  refine lv_icmp_lt (tgt := 15) S.1 S.2.1 dX11_isDays_2 (by decide) (fun (c1 : d < 1) => ?_) (fun (c1 : ¬ d < 1) => ?_)
  · refine lv_iconst (v := 0) S.1 S.2.1 dX11_isDays_15 (by decide) ?_
    have hf : (f_X11_isDays d) = false := if_pos c1
    exact g_zretR S hr hlk hS rfl (by rw [hf] <;> rfl) dX11_isDays_16
  · refine lv_iload_n S.1 S.2.1 dX11_isDays_5 rfl (lv_at hl 0 rfl) ?_
    refine lv_bipush (v := 99) S.1 S.2.1 dX11_isDays_6 (by decide) ?_
    refine lv_icmp_gt (tgt := 15) S.1 S.2.1 dX11_isDays_8 (by decide) (fun (c2 : 99 < d) => ?_) (fun (c2 : ¬ 99 < d) => ?_)
    · refine lv_iconst (v := 0) S.1 S.2.1 dX11_isDays_15 (by decide) ?_
      have hf : (f_X11_isDays d) = false := (if_neg c1).trans (if_pos c2)
      exact g_zretR S hr hlk hS rfl (by rw [hf] <;> rfl) dX11_isDays_16
    · refine lv_iconst (v := 1) S.1 S.2.1 dX11_isDays_11 (by decide) ?_
      refine lv_goto (tgt := 16) S.1 S.2.1 dX11_isDays_12 (by decide) ?_
      have hf : (f_X11_isDays d) = true := (if_neg c1).trans (if_neg c2)
      exact g_zretR S hr hlk hS rfl (by rw [hf] <;> rfl) dX11_isDays_16
def f_X11_isBasket (b : Int32) : Bool := (f_X11_isIn b 4)
set_option maxHeartbeats 4000000 in
set_option maxRecDepth 100000 in
theorem c_X11_isBasket (l : Launch) (D : va_G) (A : Nat → Prop) (w : va_W) (α : Nat → Nat) (b : Int32) : Met l yX11_isBasket (ws_ yX11_isBasket cX11_isBasket 1 (some .boolean)) ({ frames := 1, cells := 0, slots := 0, locals := 21 }) (gPre D A [.int b] w) (gR (some (.int (b2i (f_X11_isBasket b))))) 0 0 A := by
  refine g_met [(0, .int b)] (plainFor_of_name (by decide)) (Nat.le_of_ble_eq_true rfl) rfl (fun pg en s mi ar below me co ls S hK hP hD hE hS hr hlk hnm hl => ?_)
  refine lv_iload_n S.1 S.2.1 dX11_isBasket_0 rfl (lv_at hl 0 rfl) ?_
  refine lv_iconst (v := 4) S.1 S.2.1 dX11_isBasket_1 (by decide) ?_
  refine g_aftR0 (st1 := [.int (b2i (f_X11_isIn b 4))]) (g_St (As := [.int b, .int 4]) (rest := []) S ms_X11_isIn qw472 (c_X11_isIn l D A w α b 4) hK hP hD hE hS rfl rfl hl.1 (Nat.le_of_ble_eq_true rfl) rfl rfl ⟨(Nat.le_of_ble_eq_true rfl), (Nat.le_of_ble_eq_true rfl)⟩ ⟨(Nat.le_of_ble_eq_true rfl), (Nat.le_of_ble_eq_true rfl)⟩ dX11_isBasket_2) hS rfl (fun locs hS => ?_)
  have hf : (f_X11_isBasket b) = (f_X11_isIn b 4) := rfl
  exact g_zretR S hr hlk hS (b2i_nar _) (by rw [hf] <;> rfl) dX11_isBasket_5
def f_X1_length (len : Int32) : Int32 := len
set_option maxHeartbeats 4000000 in
set_option maxRecDepth 100000 in
theorem c_X1_length (l : Launch) (D : va_G) (A : Nat → Prop) (w : va_W) (α : Nat → Nat) (k : Nat) (n : Nat) (f : Nat → Int32) (len : Int32) (hB0 : Blk w k (cBytes D α k n f len)) : Met l yX1_length (ws_ yX1_length cX1_length 1 (some .int)) ({ frames := 0, cells := 0, slots := 0, locals := 0 }) (gPre D A [.ref (α (k))] w) (gR (some (.int (f_X1_length len)))) 0 0 A := by
  refine g_met [(0, .ref (α (k)))] (plainFor_of_name (by decide)) (Nat.le_of_ble_eq_true rfl) rfl (fun pg en s mi ar below me co ls S hK hP hD hE hS hr hlk hnm hl => ?_)
  refine lv_aload_n S.1 S.2.1 dX1_length_0 rfl (lv_at hl 0 rfl) ?_
  refine g_get (v := .int len) S hK hP (hB0 0 _ rfl) rfl inX1 1 (by decide) qw48 rfl dX1_length_1 ?_
  have hf : (f_X1_length len) = len := rfl
  exact g_iretR S hr hlk hS (by rw [hf] <;> rfl) dX1_length_4
def f_X1_at (n : Nat) (f : Nat → Int32) (len : Int32) (i : Int32) : Int32 := (if i < 0 then (-2) else (if len ≤ i then (-2) else (if (nI n) ≤ i then (-2) else ((f i.toNatClampNeg) &&& 255))))
set_option maxHeartbeats 4000000 in
set_option maxRecDepth 100000 in
theorem c_X1_at (l : Launch) (D : va_G) (A : Nat → Prop) (w : va_W) (α : Nat → Nat) (k : Nat) (n : Nat) (f : Nat → Int32) (len : Int32) (i : Int32) (hB0 : Blk w k (cBytes D α k n f len)) (hy0 : n < 2147483648) : Met l yX1_at (ws_ yX1_at cX1_at 2 (some .int)) ({ frames := 0, cells := 0, slots := 0, locals := 0 }) (gPre D A [.ref (α (k)), .int i] w) (gR (some (.int (f_X1_at n f len i)))) 0 0 A := by
  refine g_met [(0, .ref (α (k))), (1, .int i)] (plainFor_of_name (by decide)) (Nat.le_of_ble_eq_true rfl) rfl (fun pg en s mi ar below me co ls S hK hP hD hE hS hr hlk hnm hl => ?_)
  refine lv_iload_n S.1 S.2.1 dX1_at_0 rfl (lv_at hl 1 rfl) ?_
  refine lv_if_lt (tgt := 34) S.1 S.2.1 dX1_at_1 (by decide) (fun (c1 : i < 0) => ?_) (fun (c1 : ¬ i < 0) => ?_)
  · refine lv_bipush (v := (-2)) S.1 S.2.1 dX1_at_34 (by decide) ?_
    have hf : (f_X1_at n f len i) = (-2) := if_pos c1
    exact g_iretR S hr hlk hS (by rw [hf] <;> rfl) dX1_at_36
  · refine lv_iload_n S.1 S.2.1 dX1_at_4 rfl (lv_at hl 1 rfl) ?_
    refine lv_aload_n S.1 S.2.1 dX1_at_5 rfl (lv_at hl 0 rfl) ?_
    refine g_get (v := .int len) S hK hP (hB0 0 _ rfl) rfl inX1 1 (by decide) qw48 rfl dX1_at_6 ?_
    refine lv_icmp_ge (tgt := 34) S.1 S.2.1 dX1_at_9 (by decide) (fun (c2 : len ≤ i) => ?_) (fun (c2 : ¬ len ≤ i) => ?_)
    · refine lv_bipush (v := (-2)) S.1 S.2.1 dX1_at_34 (by decide) ?_
      have hf : (f_X1_at n f len i) = (-2) := (if_neg c1).trans (if_pos c2)
      exact g_iretR S hr hlk hS (by rw [hf] <;> rfl) dX1_at_36
    · refine lv_iload_n S.1 S.2.1 dX1_at_12 rfl (lv_at hl 1 rfl) ?_
      refine lv_aload_n S.1 S.2.1 dX1_at_13 rfl (lv_at hl 0 rfl) ?_
      refine g_get (v := .ref (α (k + 1))) S hK hP (hB0 0 _ rfl) rfl inX1 0 (by decide) qw47 rfl dX1_at_14 ?_
      refine g_alen (v := (nI n)) S hK hP (hB0 1 _ rfl) 1 rfl rfl dX1_at_17 ?_
      refine lv_icmp_ge (tgt := 34) S.1 S.2.1 dX1_at_18 (by decide) (fun (c3 : (nI n) ≤ i) => ?_) (fun (c3 : ¬ (nI n) ≤ i) => ?_)
      · refine lv_bipush (v := (-2)) S.1 S.2.1 dX1_at_34 (by decide) ?_
        have hf : (f_X1_at n f len i) = (-2) := (if_neg c1).trans ((if_neg c2).trans (if_pos c3))
        exact g_iretR S hr hlk hS (by rw [hf] <;> rfl) dX1_at_36
      · refine lv_aload_n S.1 S.2.1 dX1_at_21 rfl (lv_at hl 0 rfl) ?_
        refine g_get (v := .ref (α (k + 1))) S hK hP (hB0 0 _ rfl) rfl inX1 0 (by decide) qw47 rfl dX1_at_22 ?_
        refine lv_iload_n S.1 S.2.1 dX1_at_25 rfl (lv_at hl 1 rfl) ?_
        refine g_bald S hK hP (hB0 1 _ rfl) (vin_of hy0 c1 c3) dX1_at_26 ?_
        refine lv_sipush (v := 255) S.1 S.2.1 dX1_at_27 (by decide) ?_
        refine lv_iand S.1 S.2.1 dX1_at_30 ?_
        refine lv_goto (tgt := 36) S.1 S.2.1 dX1_at_31 (by decide) ?_
        have hf : (f_X1_at n f len i) = ((f i.toNatClampNeg) &&& 255) := (if_neg c1).trans ((if_neg c2).trans (if_neg c3))
        exact g_iretR S hr hlk hS (by rw [hf] <;> rfl) dX1_at_36
def f_X1_cutTo (len : Int32) (i : Int32) : Int32 := (if i < 0 then len else (if len < i then len else i))
set_option maxHeartbeats 4000000 in
set_option maxRecDepth 100000 in
theorem c_X1_cutTo (l : Launch) (D : va_G) (A : Nat → Prop) (w : va_W) (α : Nat → Nat) (k : Nat) (n : Nat) (f : Nat → Int32) (len : Int32) (i : Int32) (hB0 : Blk w k (cBytes D α k n f len)) : Met l yX1_cutTo (ws_ yX1_cutTo cX1_cutTo 2 none) ({ frames := 0, cells := 0, slots := 0, locals := 0 }) (gPre D A [.ref (α (k)), .int i] w) (gQ D A none (fun w1 => Blk w1 k (cBytes D α k n f (f_X1_cutTo len i)) ∧ Same w w1 k 2)) 0 0 A := by
  refine g_met [(0, .ref (α (k))), (1, .int i)] (plainFor_of_name (by decide)) (Nat.le_of_ble_eq_true rfl) rfl (fun pg en s mi ar below me co ls S hK hP hD hE hS hr hlk hnm hl => ?_)
  have hF : Same w w k 2 := Same.rf
  refine lv_iload_n S.1 S.2.1 dX1_cutTo_0 rfl (lv_at hl 1 rfl) ?_
  refine lv_if_lt (tgt := 17) S.1 S.2.1 dX1_cutTo_1 (by decide) (fun (c1 : i < 0) => ?_) (fun (c1 : ¬ i < 0) => ?_)
  · have hf : (f_X1_cutTo len i) = len := if_pos c1
    exact g_vret S hr hlk hP hD hS (rfl) (⟨by rw [hf]; exact hB0, hF⟩) dX1_cutTo_17
  · refine lv_iload_n S.1 S.2.1 dX1_cutTo_4 rfl (lv_at hl 1 rfl) ?_
    refine lv_aload_n S.1 S.2.1 dX1_cutTo_5 rfl (lv_at hl 0 rfl) ?_
    refine g_get (v := .int len) S hK hP (hB0 0 _ rfl) rfl inX1 1 (by decide) qw48 rfl dX1_cutTo_6 ?_
    refine lv_icmp_gt (tgt := 17) S.1 S.2.1 dX1_cutTo_9 (by decide) (fun (c2 : len < i) => ?_) (fun (c2 : ¬ len < i) => ?_)
    · have hf : (f_X1_cutTo len i) = len := (if_neg c1).trans (if_pos c2)
      exact g_vret S hr hlk hP hD hS (rfl) (⟨by rw [hf]; exact hB0, hF⟩) dX1_cutTo_17
    · refine lv_aload_n S.1 S.2.1 dX1_cutTo_12 rfl (lv_at hl 0 rfl) ?_
      refine lv_iload_n S.1 S.2.1 dX1_cutTo_13 rfl (lv_at hl 1 rfl) ?_
      refine g_put S hK hP hD hS (hB0 0 _ rfl) rfl inX1 tyX1_ok nmX1 1 (by decide) qw48 rfl rfl rfl (Nat.le_of_ble_eq_true rfl) dX1_cutTo_14 (fun w1 H locs hw hP hD hS => ?_)
      have hF := Same.set hF 0 hw (by decide)
      have hB0 : Blk w1 k (cBytes D α k n f i) := hB0.set 0 hw (Nat.le_of_ble_eq_true rfl) rfl
      have hf : (f_X1_cutTo len i) = i := (if_neg c1).trans (if_neg c2)
      exact g_vret S hr hlk hP hD hS (rfl) (⟨by rw [hf]; exact hB0, hF⟩) dX1_cutTo_17
def f_X1_add (n : Nat) (f : Nat → Int32) (len : Int32) (x : Int32) : (Nat → Int32) × Int32 := (if len < 0 then (f, len) else (if len < (nI n) then ((upd f len.toNatClampNeg (vp_nar .byte x.toInt8.toInt32)), (len + 1)) else (f, len)))
set_option maxHeartbeats 4000000 in
set_option maxRecDepth 100000 in
theorem c_X1_add (l : Launch) (D : va_G) (A : Nat → Prop) (w : va_W) (α : Nat → Nat) (k : Nat) (n : Nat) (f : Nat → Int32) (len : Int32) (x : Int32) (hB0 : Blk w k (cBytes D α k n f len)) (hy0 : n < 2147483648) : Met l yX1_add (ws_ yX1_add cX1_add 2 none) ({ frames := 0, cells := 0, slots := 0, locals := 0 }) (gPre D A [.ref (α (k)), .int x] w) (gQ D A none (fun w1 => Blk w1 k (cBytes D α k n ((f_X1_add n f len x).1) ((f_X1_add n f len x).2)) ∧ Same w w1 k 2)) 0 0 A := by
  refine g_met [(0, .ref (α (k))), (1, .int x)] (plainFor_of_name (by decide)) (Nat.le_of_ble_eq_true rfl) rfl (fun pg en s mi ar below me co ls S hK hP hD hE hS hr hlk hnm hl => ?_)
  have hF : Same w w k 2 := Same.rf
  refine lv_aload_n S.1 S.2.1 dX1_add_0 rfl (lv_at hl 0 rfl) ?_
  refine g_get (v := .int len) S hK hP (hB0 0 _ rfl) rfl inX1 1 (by decide) qw48 rfl dX1_add_1 ?_
  refine lv_if_lt (tgt := 19) S.1 S.2.1 dX1_add_4 (by decide) (fun (c1 : len < 0) => ?_) (fun (c1 : ¬ len < 0) => ?_)
  · have hf : (f_X1_add n f len x) = (f, len) := if_pos c1
    exact g_vret S hr hlk hP hD hS (rfl) (⟨by rw [hf]; exact hB0, hF⟩) dX1_add_19
  · refine lv_aload_n S.1 S.2.1 dX1_add_7 rfl (lv_at hl 0 rfl) ?_
    refine g_get (v := .int len) S hK hP (hB0 0 _ rfl) rfl inX1 1 (by decide) qw48 rfl dX1_add_8 ?_
    refine lv_aload_n S.1 S.2.1 dX1_add_11 rfl (lv_at hl 0 rfl) ?_
    refine g_get (v := .ref (α (k + 1))) S hK hP (hB0 0 _ rfl) rfl inX1 0 (by decide) qw47 rfl dX1_add_12 ?_
    refine g_alen (v := (nI n)) S hK hP (hB0 1 _ rfl) 1 rfl rfl dX1_add_15 ?_
    refine lv_icmp_lt (tgt := 20) S.1 S.2.1 dX1_add_16 (by decide) (fun (c2 : len < (nI n)) => ?_) (fun (c2 : ¬ len < (nI n)) => ?_)
    · refine lv_aload_n S.1 S.2.1 dX1_add_20 rfl (lv_at hl 0 rfl) ?_
      refine g_get (v := .ref (α (k + 1))) S hK hP (hB0 0 _ rfl) rfl inX1 0 (by decide) qw47 rfl dX1_add_21 ?_
      refine lv_aload_n S.1 S.2.1 dX1_add_24 rfl (lv_at hl 0 rfl) ?_
      refine g_get (v := .int len) S hK hP (hB0 0 _ rfl) rfl inX1 1 (by decide) qw48 rfl dX1_add_25 ?_
      refine lv_iload_n S.1 S.2.1 dX1_add_28 rfl (lv_at hl 1 rfl) ?_
      refine lv_i2b (v := x.toInt8.toInt32) S.1 S.2.1 dX1_add_29 rfl ?_
      refine g_bast S hK hP hD hS (hB0 1 _ rfl) (vin_of' hy0 (Int32.not_lt.mp c1) c2) dX1_add_30 (fun w1 H locs hw hP hD hS => ?_)
      have hF := Same.set hF 1 hw (by decide)
      have hB0 : Blk w1 k (cBytes D α k n (upd f len.toNatClampNeg (vp_nar .byte x.toInt8.toInt32)) len) := hB0.set 1 hw (Nat.le_of_ble_eq_true rfl) rfl
      refine lv_aload_n S.1 S.2.1 dX1_add_31 rfl (lv_at hl 0 rfl) ?_
      refine lv_dup S.1 S.2.1 dX1_add_32 rfl ?_
      refine g_get (v := .int len) S hK hP (hB0 0 _ rfl) rfl inX1 1 (by decide) qw48 rfl dX1_add_33 ?_
      refine lv_iconst (v := 1) S.1 S.2.1 dX1_add_36 (by decide) ?_
      refine lv_iadd S.1 S.2.1 dX1_add_37 ?_
      refine g_put S hK hP hD hS (hB0 0 _ rfl) rfl inX1 tyX1_ok nmX1 1 (by decide) qw48 rfl rfl rfl (Nat.le_of_ble_eq_true rfl) dX1_add_38 (fun w2 H locs hw hP hD hS => ?_)
      have hF := Same.set hF 0 hw (by decide)
      have hB0 : Blk w2 k (cBytes D α k n (upd f len.toNatClampNeg (vp_nar .byte x.toInt8.toInt32)) (len + 1)) := hB0.set 0 hw (Nat.le_of_ble_eq_true rfl) rfl
      have hf : (f_X1_add n f len x) = ((upd f len.toNatClampNeg (vp_nar .byte x.toInt8.toInt32)), (len + 1)) := (if_neg c1).trans (if_pos c2)
      exact g_vret S hr hlk hP hD hS (rfl) (⟨by rw [hf]; exact hB0, hF⟩) dX1_add_41
    · have hf : (f_X1_add n f len x) = (f, len) := (if_neg c1).trans (if_neg c2)
      exact g_vret S hr hlk hP hD hS (rfl) (⟨by rw [hf]; exact hB0, hF⟩) dX1_add_19
