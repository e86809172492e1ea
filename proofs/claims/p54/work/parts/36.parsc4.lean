noncomputable def f_X4_isName (pk : Int32) (pst : Int32) (pe : Int32) (tp : Nat → Int32) (tl : Int32) : Bool := (if pk = 1 then (if 6 < (pe - pst) then false else (bif (f_X4_isAnyKeyword pst pe tp tl) then false else true)) else false)
set_option maxHeartbeats 4000000 in
set_option maxRecDepth 100000 in
theorem c_X4_isName (l : Launch) (D : va_G) (A : Nat → Prop) (w : va_W) (α : Nat → Nat) (k : Nat) (pk : Int32) (pst : Int32) (pe : Int32) (tp : Nat → Int32) (tl : Int32) (dnums : Nat → Int32) (dbNames : Nat → Int32) (dpNames : Nat → Int32) (dfBoats : Nat → Int32) (dnB : Int32) (dnP : Int32) (hB0 : Blk w k (cParser D α k pk pst pe tp tl dnums dbNames dpNames dfBoats dnB dnP)) : Met l yX4_isName (ws_ yX4_isName cX4_isName 1 (some .boolean)) ({ frames := 6, cells := 0, slots := 0, locals := 127 }) (gPre D A [.ref (α (k))] w) (gR (some (.int (b2i (f_X4_isName pk pst pe tp tl))))) 0 0 A := by
  refine g_met [(0, .ref (α (k)))] (plainFor_of_name (by decide)) (Nat.le_of_ble_eq_true rfl) rfl (fun pg en s mi ar below me co ls S hK hP hD hE hS hr hlk hnm hl => ?_)
  refine lv_aload_n S.1 S.2.1 dX4_isName_0 rfl (lv_at hl 0 rfl) ?_
  refine g_get (v := .int pk) S hK hP (hB0 0 _ rfl) rfl inX4 2 (by decide) qw85 rfl dX4_isName_1 ?_
  refine lv_iconst (v := 1) S.1 S.2.1 dX4_isName_4 (by decide) ?_
  refine lv_icmp_ne (tgt := 33) S.1 S.2.1 dX4_isName_5 (by decide) (fun (c1 : ¬ pk = 1) => ?_) (fun (c1 : pk = 1) => ?_)
  · refine lv_iconst (v := 0) S.1 S.2.1 dX4_isName_33 (by decide) ?_
    have hf : (f_X4_isName pk pst pe tp tl) = false := if_neg c1
    exact g_zretR S hr hlk hS rfl (by rw [hf] <;> rfl) dX4_isName_34
  · refine lv_aload_n S.1 S.2.1 dX4_isName_8 rfl (lv_at hl 0 rfl) ?_
    refine g_get (v := .int pe) S hK hP (hB0 0 _ rfl) rfl inX4 4 (by decide) qw87 rfl dX4_isName_9 ?_
    refine lv_aload_n S.1 S.2.1 dX4_isName_12 rfl (lv_at hl 0 rfl) ?_
    refine g_get (v := .int pst) S hK hP (hB0 0 _ rfl) rfl inX4 3 (by decide) qw86 rfl dX4_isName_13 ?_
    refine lv_isub S.1 S.2.1 dX4_isName_16 ?_
    refine lv_bipush (v := 6) S.1 S.2.1 dX4_isName_17 (by decide) ?_
    refine lv_icmp_gt (tgt := 33) S.1 S.2.1 dX4_isName_19 (by decide) (fun (c2 : 6 < (pe - pst)) => ?_) (fun (c2 : ¬ 6 < (pe - pst)) => ?_)
    · refine lv_iconst (v := 0) S.1 S.2.1 dX4_isName_33 (by decide) ?_
      have hf : (f_X4_isName pk pst pe tp tl) = false := (if_pos c1).trans (if_pos c2)
      exact g_zretR S hr hlk hS rfl (by rw [hf] <;> rfl) dX4_isName_34
    · refine lv_aload_n S.1 S.2.1 dX4_isName_22 rfl (lv_at hl 0 rfl) ?_
      refine g_aftR0 (st1 := [.int (b2i (f_X4_isAnyKeyword pst pe tp tl))]) (g_V (As := []) (rest := []) S mi_X4_isAnyKeyword qw678 (c_X4_isAnyKeyword l D A w α (k) pk pst pe tp tl dnums dbNames dpNames dfBoats dnB dnP hB0) hK hP hD hE hS (hB0 0 _ rfl) rfl rfl rfl hl.1 (Nat.le_of_ble_eq_true rfl) rfl rfl ⟨(Nat.le_of_ble_eq_true rfl), (Nat.le_of_ble_eq_true rfl)⟩ ⟨(Nat.le_of_ble_eq_true rfl), (Nat.le_of_ble_eq_true rfl)⟩ dX4_isName_23) hS rfl (fun locs hS => ?_)
      refine g_bifne (b := (f_X4_isAnyKeyword pst pe tp tl)) (tgt := 33) S dX4_isName_26 (by decide) (fun (c3 : (f_X4_isAnyKeyword pst pe tp tl) = true) => ?_) (fun (c3 : (f_X4_isAnyKeyword pst pe tp tl) = false) => ?_)
      · refine lv_iconst (v := 0) S.1 S.2.1 dX4_isName_33 (by decide) ?_
        have hf : (f_X4_isName pk pst pe tp tl) = false := (if_pos c1).trans ((if_neg c2).trans (cd_t c3))
        exact g_zretR S hr hlk hS rfl (by rw [hf] <;> rfl) dX4_isName_34
      · refine lv_iconst (v := 1) S.1 S.2.1 dX4_isName_29 (by decide) ?_
        refine lv_goto (tgt := 34) S.1 S.2.1 dX4_isName_30 (by decide) ?_
        have hf : (f_X4_isName pk pst pe tp tl) = true := (if_pos c1).trans ((if_neg c2).trans (cd_f c3))
        exact g_zretR S hr hlk hS rfl (by rw [hf] <;> rfl) dX4_isName_34
