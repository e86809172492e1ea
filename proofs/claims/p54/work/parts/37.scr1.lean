def f_X6_kindWord (x : Int32) : Nat := (if x = 0 then 15 else (if x = 1 then 16 else (if x = 2 then 17 else (if x = 3 then 12 else (if x = 4 then 13 else (if x = 5 then 18 else (if x = 6 then 19 else 20)))))))
theorem kindWord_lt (x : Int32) : f_X6_kindWord x < strLen.length := by
  unfold f_X6_kindWord
  repeat' split
  all_goals decide
set_option maxHeartbeats 4000000 in
set_option maxRecDepth 100000 in
theorem c_X6_kindWord (l : Launch) (D : va_G) (A : Nat → Prop) (w : va_W) (α : Nat → Nat) (x : Int32) : Met l yX6_kindWord (ws_ yX6_kindWord cX6_kindWord 1 (some (.object "java/lang/String"))) ({ frames := 0, cells := 0, slots := 0, locals := 0 }) (gPre D A [.int x] w) (gR (some (.ref (D.2 200 (f_X6_kindWord x))))) 0 0 A := by
  refine g_met [(0, .int x)] (plainFor_of_name (by decide)) (Nat.le_of_ble_eq_true rfl) rfl (fun pg en s mi ar below me co ls S hK hP hD hE hS hr hlk hnm hl => ?_)
  refine lv_iload_n S.1 S.2.1 dX6_kindWord_0 rfl (lv_at hl 0 rfl) ?_
  by_cases k1_0 : x = 0
  · refine lv_tableIn (tgt := 44) S.1 S.2.1 dX6_kindWord_1 (by rw [k1_0]; decide) (by rw [k1_0]; decide) (by rw [k1_0]; rfl) (by decide) ?_
    refine va_ldcS (own := RX6) (q := D.2 200 15) S.1 S.2.1 S.2.2.2.1 (ldS_15 hE) dX6_kindWord_44 ?_
    have hf : (f_X6_kindWord x) = 15 := if_pos k1_0
    exact g_aretR S hr hlk hS (by rw [hf] <;> rfl) dX6_kindWord_46
  by_cases k1_1 : x = 1
  · refine lv_tableIn (tgt := 47) S.1 S.2.1 dX6_kindWord_1 (by rw [k1_1]; decide) (by rw [k1_1]; decide) (by rw [k1_1]; rfl) (by decide) ?_
    refine va_ldcS (own := RX6) (q := D.2 200 16) S.1 S.2.1 S.2.2.2.1 (ldS_16 hE) dX6_kindWord_47 ?_
    have hf : (f_X6_kindWord x) = 16 := (if_neg k1_0).trans (if_pos k1_1)
    exact g_aretR S hr hlk hS (by rw [hf] <;> rfl) dX6_kindWord_49
  by_cases k1_2 : x = 2
  · refine lv_tableIn (tgt := 50) S.1 S.2.1 dX6_kindWord_1 (by rw [k1_2]; decide) (by rw [k1_2]; decide) (by rw [k1_2]; rfl) (by decide) ?_
    refine va_ldcS (own := RX6) (q := D.2 200 17) S.1 S.2.1 S.2.2.2.1 (ldS_17 hE) dX6_kindWord_50 ?_
    have hf : (f_X6_kindWord x) = 17 := (if_neg k1_0).trans ((if_neg k1_1).trans (if_pos k1_2))
    exact g_aretR S hr hlk hS (by rw [hf] <;> rfl) dX6_kindWord_52
  by_cases k1_3 : x = 3
  · refine lv_tableIn (tgt := 53) S.1 S.2.1 dX6_kindWord_1 (by rw [k1_3]; decide) (by rw [k1_3]; decide) (by rw [k1_3]; rfl) (by decide) ?_
    refine va_ldcS (own := RX6) (q := D.2 200 12) S.1 S.2.1 S.2.2.2.1 (ldS_12 hE) dX6_kindWord_53 ?_
    have hf : (f_X6_kindWord x) = 12 := (if_neg k1_0).trans ((if_neg k1_1).trans ((if_neg k1_2).trans (if_pos k1_3)))
    exact g_aretR S hr hlk hS (by rw [hf] <;> rfl) dX6_kindWord_55
  by_cases k1_4 : x = 4
  · refine lv_tableIn (tgt := 56) S.1 S.2.1 dX6_kindWord_1 (by rw [k1_4]; decide) (by rw [k1_4]; decide) (by rw [k1_4]; rfl) (by decide) ?_
    refine va_ldcS (own := RX6) (q := D.2 200 13) S.1 S.2.1 S.2.2.2.1 (ldS_13 hE) dX6_kindWord_56 ?_
    have hf : (f_X6_kindWord x) = 13 := (if_neg k1_0).trans ((if_neg k1_1).trans ((if_neg k1_2).trans ((if_neg k1_3).trans (if_pos k1_4))))
    exact g_aretR S hr hlk hS (by rw [hf] <;> rfl) dX6_kindWord_58
  by_cases k1_5 : x = 5
  · refine lv_tableIn (tgt := 59) S.1 S.2.1 dX6_kindWord_1 (by rw [k1_5]; decide) (by rw [k1_5]; decide) (by rw [k1_5]; rfl) (by decide) ?_
    refine va_ldcS (own := RX6) (q := D.2 200 18) S.1 S.2.1 S.2.2.2.1 (ldS_18 hE) dX6_kindWord_59 ?_
    have hf : (f_X6_kindWord x) = 18 := (if_neg k1_0).trans ((if_neg k1_1).trans ((if_neg k1_2).trans ((if_neg k1_3).trans ((if_neg k1_4).trans (if_pos k1_5)))))
    exact g_aretR S hr hlk hS (by rw [hf] <;> rfl) dX6_kindWord_61
  by_cases k1_6 : x = 6
  · refine lv_tableIn (tgt := 62) S.1 S.2.1 dX6_kindWord_1 (by rw [k1_6]; decide) (by rw [k1_6]; decide) (by rw [k1_6]; rfl) (by decide) ?_
    refine va_ldcS (own := RX6) (q := D.2 200 19) S.1 S.2.1 S.2.2.2.1 (ldS_19 hE) dX6_kindWord_62 ?_
    have hf : (f_X6_kindWord x) = 19 := (if_neg k1_0).trans ((if_neg k1_1).trans ((if_neg k1_2).trans ((if_neg k1_3).trans ((if_neg k1_4).trans ((if_neg k1_5).trans (if_pos k1_6))))))
    exact g_aretR S hr hlk hS (by rw [hf] <;> rfl) dX6_kindWord_64
  have hout : x.toInt < (0 : Int) ∨ (6 : Int) < x.toInt := sw_out (lo := 0) (n := 7) (by decide) (fun i hi => by match i, hi with | 0, _ => exact k1_0 | 1, _ => exact k1_1 | 2, _ => exact k1_2 | 3, _ => exact k1_3 | 4, _ => exact k1_4 | 5, _ => exact k1_5 | 6, _ => exact k1_6 | i + 7, h => exact absurd h (by omega))
  refine lv_tableOut (tgt := 65) S.1 S.2.1 dX6_kindWord_1 hout (by decide) ?_
  refine va_ldcS (own := RX6) (q := D.2 200 20) S.1 S.2.1 S.2.2.2.1 (ldS_20 hE) dX6_kindWord_65 ?_
  have hf : (f_X6_kindWord x) = 20 := (if_neg k1_0).trans ((if_neg k1_1).trans ((if_neg k1_2).trans ((if_neg k1_3).trans ((if_neg k1_4).trans ((if_neg k1_5).trans (if_neg k1_6))))))
  exact g_aretR S hr hlk hS (by rw [hf] <;> rfl) dX6_kindWord_67
