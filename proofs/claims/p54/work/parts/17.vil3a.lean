def f_X10_setOut (day : Int32) (boatO : Nat → Int32) (seaO : Nat → Int32) (backB : Nat → Int32) (sailB : Nat → Int32) (logF : Nat → Int32) (logN : Int32) (b : Int32) (d : Int32) : Int32 × (Nat → Int32) × (Nat → Int32) × Int32 × (Nat → Int32) × (Nat → Int32) := ((f_X2_leave boatO seaO backB sailB b (day + d)).1, (f_X2_leave boatO seaO backB sailB b (day + d)).2.1, (f_X5_add 30 logF logN day 0 b (day + d)).2, (f_X5_add 30 logF logN day 0 b (day + d)).1, (f_X2_leave boatO seaO backB sailB b (day + d)).2.2.1, (f_X2_leave boatO seaO backB sailB b (day + d)).2.2.2)
set_option maxHeartbeats 4000000 in
set_option maxRecDepth 100000 in
theorem c_X10_setOut (l : Launch) (D : va_G) (A : Nat → Prop) (w : va_W) (α : Nat → Nat) (k : Nat) (nums : Nat → Int32) (bNames : Nat → Int32) (pNames : Nat → Int32) (fBoats : Nat → Int32) (nB : Int32) (nP : Int32) (day : Int32) (votes : Int32) (isOpen : Int32) (baskets : Int32) (lays : Int32) (recs : Int32) (fneed : Int32) (clos : Int32) (boatO : Nat → Int32) (seaO : Nat → Int32) (faultO : Nat → Int32) (daysO : Nat → Int32) (backB : Nat → Int32) (sailB : Nat → Int32) (plc : Nat → Int32) (car : Nat → Int32) (bnd : Nat → Int32) (bsk : Nat → Int32) (dyL : Nat → Int32) (rsn : Nat → Int32) (pastF : Nat → Int32) (pastN : Int32) (logF : Nat → Int32) (logN : Int32) (blB : Nat → Int32) (blC : Nat → Int32) (b : Int32) (d : Int32) (hB0 : Blk w k (cVil D α k nums bNames pNames fBoats nB nP day votes isOpen baskets lays recs fneed clos boatO seaO faultO daysO backB sailB plc car bnd bsk dyL rsn pastF pastN logF logN blB blC)) : Met l yX10_setOut (ws_ yX10_setOut cX10_setOut 5 (some .int)) ({ frames := 4, cells := 0, slots := 0, locals := 89 }) (gPre D A [.ref (α (k)), .int b, .int d] w) (gQ D A (some (.int (f_X10_setOut day boatO seaO backB sailB logF logN b d).1)) (fun w1 => Blk w1 k (cVil D α k nums bNames pNames fBoats nB nP day votes isOpen baskets lays recs fneed clos boatO ((f_X10_setOut day boatO seaO backB sailB logF logN b d).2.2.2.2.2) faultO daysO ((f_X10_setOut day boatO seaO backB sailB logF logN b d).2.1) ((f_X10_setOut day boatO seaO backB sailB logF logN b d).2.2.2.2.1) plc car bnd bsk dyL rsn pastF pastN ((f_X10_setOut day boatO seaO backB sailB logF logN b d).2.2.1) ((f_X10_setOut day boatO seaO backB sailB logF logN b d).2.2.2.1) blB blC) ∧ Same w w1 k 28)) 0 0 A := by
  refine g_met [(0, .ref (α (k))), (1, .int b), (2, .int d)] (plainFor_of_name (by decide)) (Nat.le_of_ble_eq_true rfl) rfl (fun pg en s mi ar below me co ls S hK hP hD hE hS hr hlk hnm hl => ?_)
  have hF : Same w w k 28 := Same.rf
  refine lv_aload_n S.1 S.2.1 dX10_setOut_0 rfl (lv_at hl 0 rfl) ?_
  refine g_get (v := .ref (α (k + 6))) S hK hP (hB0 0 _ rfl) rfl inX10 1 (by decide) qw254 rfl dX10_setOut_1 ?_
  refine g_get (v := .int day) S hK hP (hB0 6 _ rfl) rfl inX8 4 (by decide) qw195 rfl dX10_setOut_4 ?_
  refine lv_iload_n S.1 S.2.1 dX10_setOut_7 rfl (lv_at hl 2 rfl) ?_
  refine lv_iadd S.1 S.2.1 dX10_setOut_8 ?_
  refine lv_istore_n (lv' := [(3, .int (day + d)), (0, .ref (α (k))), (1, .int b), (2, .int d)]) S.1 S.2.1 dX10_setOut_9 rfl hl (by decide) rfl (fun ls hl => ?_)
  refine lv_aload_n S.1 S.2.1 dX10_setOut_10 rfl (lv_at hl 1 rfl) ?_
  refine g_get (v := .ref (α (k + 6))) S hK hP (hB0 0 _ rfl) rfl inX10 1 (by decide) qw254 rfl dX10_setOut_11 ?_
  refine g_get (v := .ref (α (k + 7))) S hK hP (hB0 6 _ rfl) rfl inX8 0 (by decide) qw182 rfl dX10_setOut_14 ?_
  refine lv_iload_n S.1 S.2.1 dX10_setOut_17 rfl (lv_at hl 2 rfl) ?_
  refine lv_iload_n S.1 S.2.1 dX10_setOut_18 rfl (lv_at hl 0 rfl) ?_
  refine g_aft0 (st1 := [.int ((f_X2_leave boatO seaO backB sailB b (day + d)).1)]) (g_V (As := [.int b, .int (day + d)]) (rest := []) S mi_X2_leave qw1107 (c_X2_leave l D A w α (k + 7) boatO seaO faultO daysO backB sailB b (day + d) (hB0.sub 7 rfl)) hK hP hD hE hS (hB0 7 _ rfl) rfl rfl rfl hl.1 (Nat.le_of_ble_eq_true rfl) rfl rfl ⟨(Nat.le_of_ble_eq_true rfl), (Nat.le_of_ble_eq_true rfl)⟩ ⟨(Nat.le_of_ble_eq_true rfl), (Nat.le_of_ble_eq_true rfl)⟩ dX10_setOut_19) hS rfl (fun w1 H locs hQ hP hD hS => ?_)
  have hF := hF.call 7 hQ.2 (by decide)
  have hB0 : Blk w1 k (cVil D α k nums bNames pNames fBoats nB nP day votes isOpen baskets lays recs fneed clos boatO ((f_X2_leave boatO seaO backB sailB b (day + d)).2.2.2) faultO daysO ((f_X2_leave boatO seaO backB sailB b (day + d)).2.1) ((f_X2_leave boatO seaO backB sailB b (day + d)).2.2.1) plc car bnd bsk dyL rsn pastF pastN logF logN blB blC) := hB0.splice 7 hQ.1 hQ.2 rfl (Nat.le_of_ble_eq_true rfl)
  refine lv_istore (lv' := [(4, .int ((f_X2_leave boatO seaO backB sailB b (day + d)).1)), (3, .int (day + d)), (0, .ref (α (k))), (1, .int b), (2, .int d)]) S.1 S.2.1 dX10_setOut_22 hl (by decide) rfl (fun ls hl => ?_)
  refine lv_aload_n S.1 S.2.1 dX10_setOut_24 rfl (lv_at hl 2 rfl) ?_
  refine g_get (v := .ref (α (k + 6))) S hK hP (hB0 0 _ rfl) rfl inX10 1 (by decide) qw254 rfl dX10_setOut_25 ?_
  refine g_get (v := .ref (α (k + 23))) S hK hP (hB0 6 _ rfl) rfl inX8 3 (by decide) qw192 rfl dX10_setOut_28 ?_
  refine lv_aload_n S.1 S.2.1 dX10_setOut_31 rfl (lv_at hl 2 rfl) ?_
  refine g_get (v := .ref (α (k + 6))) S hK hP (hB0 0 _ rfl) rfl inX10 1 (by decide) qw254 rfl dX10_setOut_32 ?_
  refine g_get (v := .int day) S hK hP (hB0 6 _ rfl) rfl inX8 4 (by decide) qw195 rfl dX10_setOut_35 ?_
  refine lv_iconst (v := 0) S.1 S.2.1 dX10_setOut_38 (by decide) ?_
  refine lv_iload_n S.1 S.2.1 dX10_setOut_39 rfl (lv_at hl 3 rfl) ?_
  refine lv_iload_n S.1 S.2.1 dX10_setOut_40 rfl (lv_at hl 1 rfl) ?_
  refine g_aft0 (st1 := []) (g_V (As := [.int day, .int 0, .int b, .int (day + d)]) (rest := []) S mi_X5_add qw451 (c_X5_add l D A w1 α (k + 23) 30 logF logN day 0 b (day + d) (hB0.sub 23 rfl) (by first | assumption | exact vin_d (by decide) | exact vp_in_nI (by omega) (by decide) | decide | omega)) hK hP hD hE hS (hB0 23 _ rfl) rfl rfl rfl hl.1 (Nat.le_of_ble_eq_true rfl) rfl rfl ⟨(Nat.le_of_ble_eq_true rfl), (Nat.le_of_ble_eq_true rfl)⟩ ⟨(Nat.le_of_ble_eq_true rfl), (Nat.le_of_ble_eq_true rfl)⟩ dX10_setOut_41) hS rfl (fun w2 H locs hQ hP hD hS => ?_)
  have hF := hF.call 23 hQ.2 (by decide)
  have hB0 : Blk w2 k (cVil D α k nums bNames pNames fBoats nB nP day votes isOpen baskets lays recs fneed clos boatO ((f_X2_leave boatO seaO backB sailB b (day + d)).2.2.2) faultO daysO ((f_X2_leave boatO seaO backB sailB b (day + d)).2.1) ((f_X2_leave boatO seaO backB sailB b (day + d)).2.2.1) plc car bnd bsk dyL rsn pastF pastN ((f_X5_add 30 logF logN day 0 b (day + d)).2) ((f_X5_add 30 logF logN day 0 b (day + d)).1) blB blC) := hB0.splice 23 hQ.1 hQ.2 rfl (Nat.le_of_ble_eq_true rfl)
  refine lv_iload S.1 S.2.1 dX10_setOut_44 (lv_at hl 0 rfl) ?_
  have hf : (f_X10_setOut day boatO seaO backB sailB logF logN b d) = ((f_X2_leave boatO seaO backB sailB b (day + d)).1, (f_X2_leave boatO seaO backB sailB b (day + d)).2.1, (f_X5_add 30 logF logN day 0 b (day + d)).2, (f_X5_add 30 logF logN day 0 b (day + d)).1, (f_X2_leave boatO seaO backB sailB b (day + d)).2.2.1, (f_X2_leave boatO seaO backB sailB b (day + d)).2.2.2) := rfl
  exact g_iret S hr hlk hP hD hS (by rw [hf] <;> rfl) (⟨by rw [hf]; exact hB0, hF⟩) dX10_setOut_46
