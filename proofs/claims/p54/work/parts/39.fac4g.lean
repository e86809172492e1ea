noncomputable def f_X11_past (pastF : Nat → Int32) (pastN : Int32) (x : Int32) (y : Int32) : Int32 := (if x < 0 then (-1) else (bif (f_X11_isIn y 4) then (f_X5_part 8 pastF pastN x y) else (-1)))
set_option maxHeartbeats 4000000 in
set_option maxRecDepth 100000 in
theorem c_X11_past (l : Launch) (D : va_G) (A : Nat → Prop) (w : va_W) (α : Nat → Nat) (err : Int32) (pk : Int32) (pst : Int32) (pe : Int32) (tp : Nat → Int32) (tl : Int32) (dnums : Nat → Int32) (dbNames : Nat → Int32) (dpNames : Nat → Int32) (dfBoats : Nat → Int32) (dnB : Int32) (dnP : Int32) (nums : Nat → Int32) (bNames : Nat → Int32) (pNames : Nat → Int32) (fBoats : Nat → Int32) (nB : Int32) (nP : Int32) (day : Int32) (votes : Int32) (isOpen : Int32) (baskets : Int32) (lays : Int32) (recs : Int32) (fneed : Int32) (clos : Int32) (boatO : Nat → Int32) (seaO : Nat → Int32) (faultO : Nat → Int32) (daysO : Nat → Int32) (backB : Nat → Int32) (sailB : Nat → Int32) (plc : Nat → Int32) (car : Nat → Int32) (bnd : Nat → Int32) (bsk : Nat → Int32) (dyL : Nat → Int32) (rsn : Nat → Int32) (pastF : Nat → Int32) (pastN : Int32) (logF : Nat → Int32) (logN : Int32) (blB : Nat → Int32) (blC : Nat → Int32) (hsN : Int32) (hsX : Int32) (hsF : Nat → StT) (kpF : Nat → StT) (kpZ : Nat → Int32) (tx : Nat → Int32) (txl : Int32) (x : Int32) (y : Int32) (hV : SVW D α w err pk pst pe tp tl dnums dbNames dpNames dfBoats dnB dnP nums bNames pNames fBoats nB nP day votes isOpen baskets lays recs fneed clos boatO seaO faultO daysO backB sailB plc car bnd bsk dyL rsn pastF pastN logF logN blB blC hsN hsX hsF kpF kpZ tx txl) : Met l yX11_past (ws_ yX11_past cX11_past 3 (some .int)) ({ frames := 4, cells := 0, slots := 0, locals := 76 }) (gPre D A [.ref (α (0)), .int x, .int y] w) (gR (some (.int (f_X11_past pastF pastN x y)))) 0 0 A := by
  refine g_met [(0, .ref (α (0))), (1, .int x), (2, .int y)] (plainFor_of_name (by decide)) (Nat.le_of_ble_eq_true rfl) rfl (fun pg en s mi ar below me co ls S hK hP hD hE hS hr hlk hnm hl => ?_)
  obtain ⟨hB0, hB1, hB2, hH, hKa, hKs, hB3, hB4⟩ := hV
  refine lv_iload_n S.1 S.2.1 dX11_past_0 rfl (lv_at hl 1 rfl) ?_
  refine lv_if_lt (tgt := 12) S.1 S.2.1 dX11_past_1 (by decide) (fun (c1 : x < 0) => ?_) (fun (c1 : ¬ x < 0) => ?_)
  · refine lv_iconst (v := (-1)) S.1 S.2.1 dX11_past_12 (by decide) ?_
    have hf : (f_X11_past pastF pastN x y) = (-1) := if_pos c1
    exact g_iretR S hr hlk hS (by rw [hf] <;> rfl) dX11_past_13
  · refine lv_iload_n S.1 S.2.1 dX11_past_4 rfl (lv_at hl 2 rfl) ?_
    refine lv_iconst (v := 4) S.1 S.2.1 dX11_past_5 (by decide) ?_
    refine g_aftR0 (st1 := [.int (b2i (f_X11_isIn y 4))]) (g_St (As := [.int y, .int 4]) (rest := []) S ms_X11_isIn qw472 (c_X11_isIn l D A w α y 4) hK hP hD hE hS rfl rfl hl.1 (Nat.le_of_ble_eq_true rfl) rfl rfl ⟨(Nat.le_of_ble_eq_true rfl), (Nat.le_of_ble_eq_true rfl)⟩ ⟨(Nat.le_of_ble_eq_true rfl), (Nat.le_of_ble_eq_true rfl)⟩ dX11_past_6) hS rfl (fun locs hS => ?_)
    refine g_bifne (b := (f_X11_isIn y 4)) (tgt := 14) S dX11_past_9 (by decide) (fun (c2 : (f_X11_isIn y 4) = true) => ?_) (fun (c2 : (f_X11_isIn y 4) = false) => ?_)
    · refine lv_aload_n S.1 S.2.1 dX11_past_14 rfl (lv_at hl 0 rfl) ?_
      refine g_get (v := .ref (α (15))) S hK hP (hB0 0 _ rfl) rfl inX11 4 (by decide) qw362 rfl dX11_past_15 ?_
      refine g_get (v := .ref (α (30))) S hK hP (hB2 6 _ rfl) rfl inX8 2 (by decide) qw190 rfl dX11_past_18 ?_
      refine lv_iload_n S.1 S.2.1 dX11_past_21 rfl (lv_at hl 1 rfl) ?_
      refine lv_iload_n S.1 S.2.1 dX11_past_22 rfl (lv_at hl 2 rfl) ?_
      refine g_aftR0 (st1 := [.int (f_X5_part 8 pastF pastN x y)]) (g_V (As := [.int x, .int y]) (rest := []) S mi_X5_part qw1531 (c_X5_part l D A w α (30) 8 pastF pastN x y (hB2.sub 21 rfl) (Nat.le_of_ble_eq_true rfl)) hK hP hD hE hS (hB2 21 _ rfl) rfl rfl rfl hl.1 (Nat.le_of_ble_eq_true rfl) rfl rfl ⟨(Nat.le_of_ble_eq_true rfl), (Nat.le_of_ble_eq_true rfl)⟩ ⟨(Nat.le_of_ble_eq_true rfl), (Nat.le_of_ble_eq_true rfl)⟩ dX11_past_23) hS rfl (fun locs hS => ?_)
      have hf : (f_X11_past pastF pastN x y) = (f_X5_part 8 pastF pastN x y) := (if_neg c1).trans (cd_t c2)
      exact g_iretR S hr hlk hS (by rw [hf] <;> rfl) dX11_past_26
    · refine lv_iconst (v := (-1)) S.1 S.2.1 dX11_past_12 (by decide) ?_
      have hf : (f_X11_past pastF pastN x y) = (-1) := (if_neg c1).trans (cd_f c2)
      exact g_iretR S hr hlk hS (by rw [hf] <;> rfl) dX11_past_13
