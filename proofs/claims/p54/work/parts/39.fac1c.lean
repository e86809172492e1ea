noncomputable def f_X11_isSlot (x : Int32) : Bool := (bif (f_X11_isIn x 2) then (bif (f_X11_isIn x 2) then true else false) else false)
set_option maxHeartbeats 4000000 in
set_option maxRecDepth 100000 in
theorem c_X11_isSlot (l : Launch) (D : va_G) (A : Nat → Prop) (w : va_W) (α : Nat → Nat) (err : Int32) (pk : Int32) (pst : Int32) (pe : Int32) (tp : Nat → Int32) (tl : Int32) (dnums : Nat → Int32) (dbNames : Nat → Int32) (dpNames : Nat → Int32) (dfBoats : Nat → Int32) (dnB : Int32) (dnP : Int32) (nums : Nat → Int32) (bNames : Nat → Int32) (pNames : Nat → Int32) (fBoats : Nat → Int32) (nB : Int32) (nP : Int32) (day : Int32) (votes : Int32) (isOpen : Int32) (baskets : Int32) (lays : Int32) (recs : Int32) (fneed : Int32) (clos : Int32) (boatO : Nat → Int32) (seaO : Nat → Int32) (faultO : Nat → Int32) (daysO : Nat → Int32) (backB : Nat → Int32) (sailB : Nat → Int32) (plc : Nat → Int32) (car : Nat → Int32) (bnd : Nat → Int32) (bsk : Nat → Int32) (dyL : Nat → Int32) (rsn : Nat → Int32) (pastF : Nat → Int32) (pastN : Int32) (logF : Nat → Int32) (logN : Int32) (blB : Nat → Int32) (blC : Nat → Int32) (hsN : Int32) (hsX : Int32) (hsF : Nat → StT) (kpF : Nat → StT) (kpZ : Nat → Int32) (tx : Nat → Int32) (txl : Int32) (x : Int32) (hV : SVW D α w err pk pst pe tp tl dnums dbNames dpNames dfBoats dnB dnP nums bNames pNames fBoats nB nP day votes isOpen baskets lays recs fneed clos boatO seaO faultO daysO backB sailB plc car bnd bsk dyL rsn pastF pastN logF logN blB blC hsN hsX hsF kpF kpZ tx txl) : Met l yX11_isSlot (ws_ yX11_isSlot cX11_isSlot 2 (some .boolean)) ({ frames := 1, cells := 0, slots := 0, locals := 21 }) (gPre D A [.ref (α (0)), .int x] w) (gR (some (.int (b2i (f_X11_isSlot x))))) 0 0 A := by
  refine g_met [(0, .ref (α (0))), (1, .int x)] (plainFor_of_name (by decide)) (Nat.le_of_ble_eq_true rfl) rfl (fun pg en s mi ar below me co ls S hK hP hD hE hS hr hlk hnm hl => ?_)
  obtain ⟨hB0, hB1, hB2, hH, hKa, hKs, hB3, hB4⟩ := hV
  refine lv_iload_n S.1 S.2.1 dX11_isSlot_0 rfl (lv_at hl 1 rfl) ?_
  refine lv_aload_n S.1 S.2.1 dX11_isSlot_1 rfl (lv_at hl 0 rfl) ?_
  refine g_get (v := .ref (α (191))) S hK hP (hB0 0 _ rfl) rfl inX11 6 (by decide) qw364 rfl dX11_isSlot_2 ?_
  refine g_alen (v := 2) S hK hP hKa 3 rfl rfl dX11_isSlot_5 ?_
  refine g_aftR0 (st1 := [.int (b2i (f_X11_isIn x 2))]) (g_St (As := [.int x, .int 2]) (rest := []) S ms_X11_isIn qw472 (c_X11_isIn l D A w α x 2) hK hP hD hE hS rfl rfl hl.1 (Nat.le_of_ble_eq_true rfl) rfl rfl ⟨(Nat.le_of_ble_eq_true rfl), (Nat.le_of_ble_eq_true rfl)⟩ ⟨(Nat.le_of_ble_eq_true rfl), (Nat.le_of_ble_eq_true rfl)⟩ dX11_isSlot_6) hS rfl (fun locs hS => ?_)
  refine g_bifeq (b := (f_X11_isIn x 2)) (tgt := 28) S dX11_isSlot_9 (by decide) (fun (c1 : (f_X11_isIn x 2) = false) => ?_) (fun (c1 : (f_X11_isIn x 2) = true) => ?_)
  · refine lv_iconst (v := 0) S.1 S.2.1 dX11_isSlot_28 (by decide) ?_
    have hf : (f_X11_isSlot x) = false := cd_f c1
    exact g_zretR S hr hlk hS rfl (by rw [hf] <;> rfl) dX11_isSlot_29
  · refine lv_iload_n S.1 S.2.1 dX11_isSlot_12 rfl (lv_at hl 1 rfl) ?_
    refine lv_aload_n S.1 S.2.1 dX11_isSlot_13 rfl (lv_at hl 0 rfl) ?_
    refine g_get (v := .ref (α (230))) S hK hP (hB0 0 _ rfl) rfl inX11 7 (by decide) qw365 rfl dX11_isSlot_14 ?_
    refine g_alen (v := 2) S hK hP (hB3 0 _ rfl) 2 rfl rfl dX11_isSlot_17 ?_
    refine g_aftR0 (st1 := [.int (b2i (f_X11_isIn x 2))]) (g_St (As := [.int x, .int 2]) (rest := []) S ms_X11_isIn qw472 (c_X11_isIn l D A w α x 2) hK hP hD hE hS rfl rfl hl.1 (Nat.le_of_ble_eq_true rfl) rfl rfl ⟨(Nat.le_of_ble_eq_true rfl), (Nat.le_of_ble_eq_true rfl)⟩ ⟨(Nat.le_of_ble_eq_true rfl), (Nat.le_of_ble_eq_true rfl)⟩ dX11_isSlot_18) hS rfl (fun locs hS => ?_)
    refine g_bifeq (b := (f_X11_isIn x 2)) (tgt := 28) S dX11_isSlot_21 (by decide) (fun (c2 : (f_X11_isIn x 2) = false) => ?_) (fun (c2 : (f_X11_isIn x 2) = true) => ?_)
    · refine lv_iconst (v := 0) S.1 S.2.1 dX11_isSlot_28 (by decide) ?_
      have hf : (f_X11_isSlot x) = false := (cd_t c1).trans (cd_f c2)
      exact g_zretR S hr hlk hS rfl (by rw [hf] <;> rfl) dX11_isSlot_29
    · refine lv_iconst (v := 1) S.1 S.2.1 dX11_isSlot_24 (by decide) ?_
      refine lv_goto (tgt := 29) S.1 S.2.1 dX11_isSlot_25 (by decide) ?_
      have hf : (f_X11_isSlot x) = true := (cd_t c1).trans (cd_t c2)
      exact g_zretR S hr hlk hS rfl (by rw [hf] <;> rfl) dX11_isSlot_29
