def f_X10_strike (day : Int32) (plc : Nat → Int32) (rsn : Nat → Int32) (logF : Nat → Int32) (logN : Int32) (o : Int32) : (Nat → Int32) × Int32 × (Nat → Int32) := ((f_X5_add 30 logF logN day 4 o (f_X9_reasonOf rsn o)).2, (f_X5_add 30 logF logN day 4 o (f_X9_reasonOf rsn o)).1, (f_X9_strike plc o))
set_option maxHeartbeats 4000000 in
set_option maxRecDepth 100000 in
theorem c_X10_strike (l : Launch) (D : va_G) (A : Nat → Prop) (w : va_W) (α : Nat → Nat) (k : Nat) (nums : Nat → Int32) (bNames : Nat → Int32) (pNames : Nat → Int32) (fBoats : Nat → Int32) (nB : Int32) (nP : Int32) (day : Int32) (votes : Int32) (isOpen : Int32) (baskets : Int32) (lays : Int32) (recs : Int32) (fneed : Int32) (clos : Int32) (boatO : Nat → Int32) (seaO : Nat → Int32) (faultO : Nat → Int32) (daysO : Nat → Int32) (backB : Nat → Int32) (sailB : Nat → Int32) (plc : Nat → Int32) (car : Nat → Int32) (bnd : Nat → Int32) (bsk : Nat → Int32) (dyL : Nat → Int32) (rsn : Nat → Int32) (pastF : Nat → Int32) (pastN : Int32) (logF : Nat → Int32) (logN : Int32) (blB : Nat → Int32) (blC : Nat → Int32) (o : Int32) (hB0 : Blk w k (cVil D α k nums bNames pNames fBoats nB nP day votes isOpen baskets lays recs fneed clos boatO seaO faultO daysO backB sailB plc car bnd bsk dyL rsn pastF pastN logF logN blB blC)) : Met l yX10_strike (ws_ yX10_strike cX10_strike 2 none) ({ frames := 3, cells := 0, slots := 0, locals := 68 }) (gPre D A [.ref (α (k)), .int o] w) (gQ D A none (fun w1 => Blk w1 k (cVil D α k nums bNames pNames fBoats nB nP day votes isOpen baskets lays recs fneed clos boatO seaO faultO daysO backB sailB ((f_X10_strike day plc rsn logF logN o).2.2) car bnd bsk dyL rsn pastF pastN ((f_X10_strike day plc rsn logF logN o).1) ((f_X10_strike day plc rsn logF logN o).2.1) blB blC) ∧ Same w w1 k 28)) 0 0 A := by
  refine g_met [(0, .ref (α (k))), (1, .int o)] (plainFor_of_name (by decide)) (Nat.le_of_ble_eq_true rfl) rfl (fun pg en s mi ar below me co ls S hK hP hD hE hS hr hlk hnm hl => ?_)
  have hF : Same w w k 28 := Same.rf
  refine lv_aload_n S.1 S.2.1 dX10_strike_0 rfl (lv_at hl 0 rfl) ?_
  refine g_get (v := .ref (α (k + 6))) S hK hP (hB0 0 _ rfl) rfl inX10 1 (by decide) qw254 rfl dX10_strike_1 ?_
  refine g_get (v := .ref (α (k + 14))) S hK hP (hB0 6 _ rfl) rfl inX8 1 (by decide) qw186 rfl dX10_strike_4 ?_
  refine lv_iload_n S.1 S.2.1 dX10_strike_7 rfl (lv_at hl 1 rfl) ?_
  refine g_aft0 (st1 := []) (g_V (As := [.int o]) (rest := []) S mi_X9_strike qw1240 (c_X9_strike l D A w α (k + 14) plc car bnd bsk dyL rsn o (hB0.sub 14 rfl)) hK hP hD hE hS (hB0 14 _ rfl) rfl rfl rfl hl.1 (Nat.le_of_ble_eq_true rfl) rfl rfl ⟨(Nat.le_of_ble_eq_true rfl), (Nat.le_of_ble_eq_true rfl)⟩ ⟨(Nat.le_of_ble_eq_true rfl), (Nat.le_of_ble_eq_true rfl)⟩ dX10_strike_8) hS rfl (fun w1 H locs hQ hP hD hS => ?_)
  have hF := hF.call 14 hQ.2 (by decide)
  have hB0 : Blk w1 k (cVil D α k nums bNames pNames fBoats nB nP day votes isOpen baskets lays recs fneed clos boatO seaO faultO daysO backB sailB (f_X9_strike plc o) car bnd bsk dyL rsn pastF pastN logF logN blB blC) := hB0.splice 14 hQ.1 hQ.2 rfl (Nat.le_of_ble_eq_true rfl)
  refine lv_aload_n S.1 S.2.1 dX10_strike_11 rfl (lv_at hl 0 rfl) ?_
  refine g_get (v := .ref (α (k + 6))) S hK hP (hB0 0 _ rfl) rfl inX10 1 (by decide) qw254 rfl dX10_strike_12 ?_
  refine g_get (v := .ref (α (k + 23))) S hK hP (hB0 6 _ rfl) rfl inX8 3 (by decide) qw192 rfl dX10_strike_15 ?_
  refine lv_aload_n S.1 S.2.1 dX10_strike_18 rfl (lv_at hl 0 rfl) ?_
  refine g_get (v := .ref (α (k + 6))) S hK hP (hB0 0 _ rfl) rfl inX10 1 (by decide) qw254 rfl dX10_strike_19 ?_
  refine g_get (v := .int day) S hK hP (hB0 6 _ rfl) rfl inX8 4 (by decide) qw195 rfl dX10_strike_22 ?_
  refine lv_iconst (v := 4) S.1 S.2.1 dX10_strike_25 (by decide) ?_
  refine lv_iload_n S.1 S.2.1 dX10_strike_26 rfl (lv_at hl 1 rfl) ?_
  refine lv_aload_n S.1 S.2.1 dX10_strike_27 rfl (lv_at hl 0 rfl) ?_
  refine g_get (v := .ref (α (k + 6))) S hK hP (hB0 0 _ rfl) rfl inX10 1 (by decide) qw254 rfl dX10_strike_28 ?_
  refine g_get (v := .ref (α (k + 14))) S hK hP (hB0 6 _ rfl) rfl inX8 1 (by decide) qw186 rfl dX10_strike_31 ?_
  refine lv_iload_n S.1 S.2.1 dX10_strike_34 rfl (lv_at hl 1 rfl) ?_
  refine g_aftR0 (st1 := [.int (f_X9_reasonOf rsn o), .int o, .int 4, .int day, .ref (α (k + 23))]) (g_V (As := [.int o]) (rest := [.int o, .int 4, .int day, .ref (α (k + 23))]) S mi_X9_reasonOf qw1228 (c_X9_reasonOf l D A w1 α (k + 14) (f_X9_strike plc o) car bnd bsk dyL rsn o (hB0.sub 14 rfl)) hK hP hD hE hS (hB0 14 _ rfl) rfl rfl rfl hl.1 (Nat.le_of_ble_eq_true rfl) rfl rfl ⟨(Nat.le_of_ble_eq_true rfl), (Nat.le_of_ble_eq_true rfl)⟩ ⟨(Nat.le_of_ble_eq_true rfl), (Nat.le_of_ble_eq_true rfl)⟩ dX10_strike_35) hS rfl (fun locs hS => ?_)
  refine g_aft0 (st1 := []) (g_V (As := [.int day, .int 4, .int o, .int (f_X9_reasonOf rsn o)]) (rest := []) S mi_X5_add qw451 (c_X5_add l D A w1 α (k + 23) 30 logF logN day 4 o (f_X9_reasonOf rsn o) (hB0.sub 23 rfl) (by first | assumption | exact vin_d (by decide) | exact vp_in_nI (by omega) (by decide) | decide | omega)) hK hP hD hE hS (hB0 23 _ rfl) rfl rfl rfl hl.1 (Nat.le_of_ble_eq_true rfl) rfl rfl ⟨(Nat.le_of_ble_eq_true rfl), (Nat.le_of_ble_eq_true rfl)⟩ ⟨(Nat.le_of_ble_eq_true rfl), (Nat.le_of_ble_eq_true rfl)⟩ dX10_strike_38) hS rfl (fun w2 H locs hQ hP hD hS => ?_)
  have hF := hF.call 23 hQ.2 (by decide)
  have hB0 : Blk w2 k (cVil D α k nums bNames pNames fBoats nB nP day votes isOpen baskets lays recs fneed clos boatO seaO faultO daysO backB sailB (f_X9_strike plc o) car bnd bsk dyL rsn pastF pastN ((f_X5_add 30 logF logN day 4 o (f_X9_reasonOf rsn o)).2) ((f_X5_add 30 logF logN day 4 o (f_X9_reasonOf rsn o)).1) blB blC) := hB0.splice 23 hQ.1 hQ.2 rfl (Nat.le_of_ble_eq_true rfl)
  have hf : (f_X10_strike day plc rsn logF logN o) = ((f_X5_add 30 logF logN day 4 o (f_X9_reasonOf rsn o)).2, (f_X5_add 30 logF logN day 4 o (f_X9_reasonOf rsn o)).1, (f_X9_strike plc o)) := rfl
  exact g_vret S hr hlk hP hD hS (rfl) (⟨by rw [hf]; exact hB0, hF⟩) dX10_strike_41
