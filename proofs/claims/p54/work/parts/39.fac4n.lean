noncomputable def f_X11_needIfHome (nums : Nat → Int32) (nB : Int32) (nP : Int32) (day : Int32) (backB : Nat → Int32) (x : Int32) : Int32 := (bif (f_X11_isBoat nB x) then (bif (f_X2_isOut backB x) then (f_X10_needOf nums nP day ((f_X2_boatsOut backB) - 1)) else (-4)) else (-1))
set_option maxHeartbeats 4000000 in
set_option maxRecDepth 100000 in
theorem c_X11_needIfHome (l : Launch) (D : va_G) (A : Nat → Prop) (w : va_W) (α : Nat → Nat) (err : Int32) (pk : Int32) (pst : Int32) (pe : Int32) (tp : Nat → Int32) (tl : Int32) (dnums : Nat → Int32) (dbNames : Nat → Int32) (dpNames : Nat → Int32) (dfBoats : Nat → Int32) (dnB : Int32) (dnP : Int32) (nums : Nat → Int32) (bNames : Nat → Int32) (pNames : Nat → Int32) (fBoats : Nat → Int32) (nB : Int32) (nP : Int32) (day : Int32) (votes : Int32) (isOpen : Int32) (baskets : Int32) (lays : Int32) (recs : Int32) (fneed : Int32) (clos : Int32) (boatO : Nat → Int32) (seaO : Nat → Int32) (faultO : Nat → Int32) (daysO : Nat → Int32) (backB : Nat → Int32) (sailB : Nat → Int32) (plc : Nat → Int32) (car : Nat → Int32) (bnd : Nat → Int32) (bsk : Nat → Int32) (dyL : Nat → Int32) (rsn : Nat → Int32) (pastF : Nat → Int32) (pastN : Int32) (logF : Nat → Int32) (logN : Int32) (blB : Nat → Int32) (blC : Nat → Int32) (hsN : Int32) (hsX : Int32) (hsF : Nat → StT) (kpF : Nat → StT) (kpZ : Nat → Int32) (tx : Nat → Int32) (txl : Int32) (x : Int32) (hV : SVW D α w err pk pst pe tp tl dnums dbNames dpNames dfBoats dnB dnP nums bNames pNames fBoats nB nP day votes isOpen baskets lays recs fneed clos boatO seaO faultO daysO backB sailB plc car bnd bsk dyL rsn pastF pastN logF logN blB blC hsN hsX hsF kpF kpZ tx txl) : Met l yX11_needIfHome (ws_ yX11_needIfHome cX11_needIfHome 2 (some .int)) ({ frames := 4, cells := 0, slots := 0, locals := 89 }) (gPre D A [.ref (α (0)), .int x] w) (gR (some (.int (f_X11_needIfHome nums nB nP day backB x)))) 0 0 A := by
  refine g_met [(0, .ref (α (0))), (1, .int x)] (plainFor_of_name (by decide)) (Nat.le_of_ble_eq_true rfl) rfl (fun pg en s mi ar below me co ls S hK hP hD hE hS hr hlk hnm hl => ?_)
  obtain ⟨hB0, hB1, hB2, hH, hKa, hKs, hB3, hB4⟩ := hV
  refine lv_aload_n S.1 S.2.1 dX11_needIfHome_0 rfl (lv_at hl 0 rfl) ?_
  refine lv_iload_n S.1 S.2.1 dX11_needIfHome_1 rfl (lv_at hl 1 rfl) ?_
  refine g_aftR0 (st1 := [.int (b2i (f_X11_isBoat nB x))]) (g_V (As := [.int x]) (rest := []) S mi_X11_isBoat qw1095 (c_X11_isBoat l D A w α err pk pst pe tp tl dnums dbNames dpNames dfBoats dnB dnP nums bNames pNames fBoats nB nP day votes isOpen baskets lays recs fneed clos boatO seaO faultO daysO backB sailB plc car bnd bsk dyL rsn pastF pastN logF logN blB blC hsN hsX hsF kpF kpZ tx txl x ⟨hB0, hB1, hB2, hH, hKa, hKs, hB3, hB4⟩) hK hP hD hE hS (hB0 0 _ rfl) rfl rfl rfl hl.1 (Nat.le_of_ble_eq_true rfl) rfl rfl ⟨(Nat.le_of_ble_eq_true rfl), (Nat.le_of_ble_eq_true rfl)⟩ ⟨(Nat.le_of_ble_eq_true rfl), (Nat.le_of_ble_eq_true rfl)⟩ dX11_needIfHome_2) hS rfl (fun locs hS => ?_)
  refine g_bifne (b := (f_X11_isBoat nB x)) (tgt := 10) S dX11_needIfHome_5 (by decide) (fun (c1 : (f_X11_isBoat nB x) = true) => ?_) (fun (c1 : (f_X11_isBoat nB x) = false) => ?_)
  · refine lv_aload_n S.1 S.2.1 dX11_needIfHome_10 rfl (lv_at hl 0 rfl) ?_
    refine g_get (v := .ref (α (15))) S hK hP (hB0 0 _ rfl) rfl inX11 4 (by decide) qw362 rfl dX11_needIfHome_11 ?_
    refine g_get (v := .ref (α (16))) S hK hP (hB2 6 _ rfl) rfl inX8 0 (by decide) qw183 rfl dX11_needIfHome_14 ?_
    refine lv_iload_n S.1 S.2.1 dX11_needIfHome_17 rfl (lv_at hl 1 rfl) ?_
    refine g_aftR0 (st1 := [.int (b2i (f_X2_isOut backB x))]) (g_V (As := [.int x]) (rest := []) S mi_X2_isOut qw1102 (c_X2_isOut l D A w α (16) boatO seaO faultO daysO backB sailB x (hB2.sub 7 rfl)) hK hP hD hE hS (hB2 7 _ rfl) rfl rfl rfl hl.1 (Nat.le_of_ble_eq_true rfl) rfl rfl ⟨(Nat.le_of_ble_eq_true rfl), (Nat.le_of_ble_eq_true rfl)⟩ ⟨(Nat.le_of_ble_eq_true rfl), (Nat.le_of_ble_eq_true rfl)⟩ dX11_needIfHome_18) hS rfl (fun locs hS => ?_)
    refine g_bifne (b := (f_X2_isOut backB x)) (tgt := 27) S dX11_needIfHome_21 (by decide) (fun (c2 : (f_X2_isOut backB x) = true) => ?_) (fun (c2 : (f_X2_isOut backB x) = false) => ?_)
    · refine lv_aload_n S.1 S.2.1 dX11_needIfHome_27 rfl (lv_at hl 0 rfl) ?_
      refine g_get (v := .ref (α (9))) S hK hP (hB0 0 _ rfl) rfl inX11 2 (by decide) qw360 rfl dX11_needIfHome_28 ?_
      refine lv_aload_n S.1 S.2.1 dX11_needIfHome_31 rfl (lv_at hl 0 rfl) ?_
      refine g_get (v := .ref (α (15))) S hK hP (hB0 0 _ rfl) rfl inX11 4 (by decide) qw362 rfl dX11_needIfHome_32 ?_
      refine g_get (v := .int day) S hK hP (hB2 6 _ rfl) rfl inX8 4 (by decide) qw196 rfl dX11_needIfHome_35 ?_
      refine lv_aload_n S.1 S.2.1 dX11_needIfHome_38 rfl (lv_at hl 0 rfl) ?_
      refine g_get (v := .ref (α (15))) S hK hP (hB0 0 _ rfl) rfl inX11 4 (by decide) qw362 rfl dX11_needIfHome_39 ?_
      refine g_get (v := .ref (α (16))) S hK hP (hB2 6 _ rfl) rfl inX8 0 (by decide) qw183 rfl dX11_needIfHome_42 ?_
      refine g_aftR0 (st1 := [.int (f_X2_boatsOut backB), .int day, .ref (α (9))]) (g_V (As := []) (rest := [.int day, .ref (α (9))]) S mi_X2_boatsOut qw742 (c_X2_boatsOut l D A w α (16) boatO seaO faultO daysO backB sailB (hB2.sub 7 rfl)) hK hP hD hE hS (hB2 7 _ rfl) rfl rfl rfl hl.1 (Nat.le_of_ble_eq_true rfl) rfl rfl ⟨(Nat.le_of_ble_eq_true rfl), (Nat.le_of_ble_eq_true rfl)⟩ ⟨(Nat.le_of_ble_eq_true rfl), (Nat.le_of_ble_eq_true rfl)⟩ dX11_needIfHome_45) hS rfl (fun locs hS => ?_)
      refine lv_iconst (v := 1) S.1 S.2.1 dX11_needIfHome_48 (by decide) ?_
      refine lv_isub S.1 S.2.1 dX11_needIfHome_49 ?_
      refine g_aftR0 (st1 := [.int (f_X10_needOf nums nP day ((f_X2_boatsOut backB) - 1))]) (g_V (As := [.int day, .int ((f_X2_boatsOut backB) - 1)]) (rest := []) S mi_X10_needOf qw1333 (c_X10_needOf l D A w α (9) nums bNames pNames fBoats nB nP day votes isOpen baskets lays recs fneed clos boatO seaO faultO daysO backB sailB plc car bnd bsk dyL rsn pastF pastN logF logN blB blC day ((f_X2_boatsOut backB) - 1) hB2) hK hP hD hE hS (hB2 0 _ rfl) rfl rfl rfl hl.1 (Nat.le_of_ble_eq_true rfl) rfl rfl ⟨(Nat.le_of_ble_eq_true rfl), (Nat.le_of_ble_eq_true rfl)⟩ ⟨(Nat.le_of_ble_eq_true rfl), (Nat.le_of_ble_eq_true rfl)⟩ dX11_needIfHome_50) hS rfl (fun locs hS => ?_)
      have hf : (f_X11_needIfHome nums nB nP day backB x) = (f_X10_needOf nums nP day ((f_X2_boatsOut backB) - 1)) := (cd_t c1).trans (cd_t c2)
      exact g_iretR S hr hlk hS (by rw [hf] <;> rfl) dX11_needIfHome_53
    · refine lv_bipush (v := (-4)) S.1 S.2.1 dX11_needIfHome_24 (by decide) ?_
      have hf : (f_X11_needIfHome nums nB nP day backB x) = (-4) := (cd_t c1).trans (cd_f c2)
      exact g_iretR S hr hlk hS (by rw [hf] <;> rfl) dX11_needIfHome_26
  · refine lv_iconst (v := (-1)) S.1 S.2.1 dX11_needIfHome_8 (by decide) ?_
    have hf : (f_X11_needIfHome nums nB nP day backB x) = (-1) := cd_f c1
    exact g_iretR S hr hlk hS (by rw [hf] <;> rfl) dX11_needIfHome_9
