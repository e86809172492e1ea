def f_X6_placeWord (x : Int32) : Nat := (if x = 0 then 10 else (if x = 1 then 11 else (if x = 2 then 12 else 13)))
theorem placeWord_lt (x : Int32) : f_X6_placeWord x < strLen.length := by
  unfold f_X6_placeWord
  by_cases h0 : x = 0
  · rw [if_pos h0]; decide
  · rw [if_neg h0]
    by_cases h1 : x = 1
    · rw [if_pos h1]; decide
    · rw [if_neg h1]
      by_cases h2 : x = 2
      · rw [if_pos h2]; decide
      · rw [if_neg h2]; decide
set_option maxHeartbeats 4000000 in
set_option maxRecDepth 100000 in
theorem c_X6_placeWord (l : Launch) (D : va_G) (A : Nat → Prop) (w : va_W) (α : Nat → Nat) (x : Int32) : Met l yX6_placeWord (ws_ yX6_placeWord cX6_placeWord 1 (some (.object "java/lang/String"))) ({ frames := 0, cells := 0, slots := 0, locals := 0 }) (gPre D A [.int x] w) (gR (some (.ref (D.2 200 (f_X6_placeWord x))))) 0 0 A := by
  refine g_met [(0, .int x)] (plainFor_of_name (by decide)) (Nat.le_of_ble_eq_true rfl) rfl (fun pg en s mi ar below me co ls S hK hP hD hE hS hr hlk hnm hl => ?_)
  refine lv_iload_n S.1 S.2.1 dX6_placeWord_0 rfl (lv_at hl 0 rfl) ?_
  by_cases k1_0 : x = 0
  · refine lv_tableIn (tgt := 28) S.1 S.2.1 dX6_placeWord_1 (by rw [k1_0]; decide) (by rw [k1_0]; decide) (by rw [k1_0]; rfl) (by decide) ?_
    refine va_ldcS (own := RX6) (q := D.2 200 10) S.1 S.2.1 S.2.2.2.1 (ldS_10 hE) dX6_placeWord_28 ?_
    have hf : (f_X6_placeWord x) = 10 := if_pos k1_0
    exact g_aretR S hr hlk hS (by rw [hf] <;> rfl) dX6_placeWord_30
  by_cases k1_1 : x = 1
  · refine lv_tableIn (tgt := 31) S.1 S.2.1 dX6_placeWord_1 (by rw [k1_1]; decide) (by rw [k1_1]; decide) (by rw [k1_1]; rfl) (by decide) ?_
    refine va_ldcS (own := RX6) (q := D.2 200 11) S.1 S.2.1 S.2.2.2.1 (ldS_11 hE) dX6_placeWord_31 ?_
    have hf : (f_X6_placeWord x) = 11 := (if_neg k1_0).trans (if_pos k1_1)
    exact g_aretR S hr hlk hS (by rw [hf] <;> rfl) dX6_placeWord_33
  by_cases k1_2 : x = 2
  · refine lv_tableIn (tgt := 34) S.1 S.2.1 dX6_placeWord_1 (by rw [k1_2]; decide) (by rw [k1_2]; decide) (by rw [k1_2]; rfl) (by decide) ?_
    refine va_ldcS (own := RX6) (q := D.2 200 12) S.1 S.2.1 S.2.2.2.1 (ldS_12 hE) dX6_placeWord_34 ?_
    have hf : (f_X6_placeWord x) = 12 := (if_neg k1_0).trans ((if_neg k1_1).trans (if_pos k1_2))
    exact g_aretR S hr hlk hS (by rw [hf] <;> rfl) dX6_placeWord_36
  have hout : x.toInt < (0 : Int) ∨ (2 : Int) < x.toInt := sw_out (lo := 0) (n := 3) (by decide) (fun i hi => by match i, hi with | 0, _ => exact k1_0 | 1, _ => exact k1_1 | 2, _ => exact k1_2 | i + 3, h => exact absurd h (by omega))
  refine lv_tableOut (tgt := 37) S.1 S.2.1 dX6_placeWord_1 hout (by decide) ?_
  refine va_ldcS (own := RX6) (q := D.2 200 13) S.1 S.2.1 S.2.2.2.1 (ldS_13 hE) dX6_placeWord_37 ?_
  have hf : (f_X6_placeWord x) = 13 := (if_neg k1_0).trans ((if_neg k1_1).trans (if_neg k1_2))
  exact g_aretR S hr hlk hS (by rw [hf] <;> rfl) dX6_placeWord_39
