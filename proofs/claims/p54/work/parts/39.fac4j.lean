noncomputable def f_X11_owners (plc : Nat → Int32) (bsk : Nat → Int32) (x : Int32) : Int32 := (bif (f_X11_isBasket x) then (f_X9_maskIn plc bsk x) else (-1))
set_option maxHeartbeats 4000000 in
set_option maxRecDepth 100000 in
theorem c_X11_owners (l : Launch) (D : va_G) (A : Nat → Prop) (w : va_W) (α : Nat → Nat) (err : Int32) (pk : Int32) (pst : Int32) (pe : Int32) (tp : Nat → Int32) (tl : Int32) (dnums : Nat → Int32) (dbNames : Nat → Int32) (dpNames : Nat → Int32) (dfBoats : Nat → Int32) (dnB : Int32) (dnP : Int32) (nums : Nat → Int32) (bNames : Nat → Int32) (pNames : Nat → Int32) (fBoats : Nat → Int32) (nB : Int32) (nP : Int32) (day : Int32) (votes : Int32) (isOpen : Int32) (baskets : Int32) (lays : Int32) (recs : Int32) (fneed : Int32) (clos : Int32) (boatO : Nat → Int32) (seaO : Nat → Int32) (faultO : Nat → Int32) (daysO : Nat → Int32) (backB : Nat → Int32) (sailB : Nat → Int32) (plc : Nat → Int32) (car : Nat → Int32) (bnd : Nat → Int32) (bsk : Nat → Int32) (dyL : Nat → Int32) (rsn : Nat → Int32) (pastF : Nat → Int32) (pastN : Int32) (logF : Nat → Int32) (logN : Int32) (blB : Nat → Int32) (blC : Nat → Int32) (hsN : Int32) (hsX : Int32) (hsF : Nat → StT) (kpF : Nat → StT) (kpZ : Nat → Int32) (tx : Nat → Int32) (txl : Int32) (x : Int32) (hV : SVW D α w err pk pst pe tp tl dnums dbNames dpNames dfBoats dnB dnP nums bNames pNames fBoats nB nP day votes isOpen baskets lays recs fneed clos boatO seaO faultO daysO backB sailB plc car bnd bsk dyL rsn pastF pastN logF logN blB blC hsN hsX hsF kpF kpZ tx txl) : Met l yX11_owners (ws_ yX11_owners cX11_owners 2 (some .int)) ({ frames := 3, cells := 0, slots := 0, locals := 66 }) (gPre D A [.ref (α (0)), .int x] w) (gR (some (.int (f_X11_owners plc bsk x)))) 0 0 A := by
  refine g_met [(0, .ref (α (0))), (1, .int x)] (plainFor_of_name (by decide)) (Nat.le_of_ble_eq_true rfl) rfl (fun pg en s mi ar below me co ls S hK hP hD hE hS hr hlk hnm hl => ?_)
  obtain ⟨hB0, hB1, hB2, hH, hKa, hKs, hB3, hB4⟩ := hV
  refine lv_iload_n S.1 S.2.1 dX11_owners_0 rfl (lv_at hl 1 rfl) ?_
  refine g_aftR0 (st1 := [.int (b2i (f_X11_isBasket x))]) (g_St (As := [.int x]) (rest := []) S ms_X11_isBasket qw1155 (c_X11_isBasket l D A w α x) hK hP hD hE hS rfl rfl hl.1 (Nat.le_of_ble_eq_true rfl) rfl rfl ⟨(Nat.le_of_ble_eq_true rfl), (Nat.le_of_ble_eq_true rfl)⟩ ⟨(Nat.le_of_ble_eq_true rfl), (Nat.le_of_ble_eq_true rfl)⟩ dX11_owners_1) hS rfl (fun locs hS => ?_)
  refine g_bifeq (b := (f_X11_isBasket x)) (tgt := 21) S dX11_owners_4 (by decide) (fun (c1 : (f_X11_isBasket x) = false) => ?_) (fun (c1 : (f_X11_isBasket x) = true) => ?_)
  · refine lv_iconst (v := (-1)) S.1 S.2.1 dX11_owners_21 (by decide) ?_
    have hf : (f_X11_owners plc bsk x) = (-1) := cd_f c1
    exact g_iretR S hr hlk hS (by rw [hf] <;> rfl) dX11_owners_22
  · refine lv_aload_n S.1 S.2.1 dX11_owners_7 rfl (lv_at hl 0 rfl) ?_
    refine g_get (v := .ref (α (15))) S hK hP (hB0 0 _ rfl) rfl inX11 4 (by decide) qw362 rfl dX11_owners_8 ?_
    refine g_get (v := .ref (α (23))) S hK hP (hB2 6 _ rfl) rfl inX8 1 (by decide) qw187 rfl dX11_owners_11 ?_
    refine lv_iload_n S.1 S.2.1 dX11_owners_14 rfl (lv_at hl 1 rfl) ?_
    refine g_aftR0 (st1 := [.int (f_X9_maskIn plc bsk x)]) (g_V (As := [.int x]) (rest := []) S mi_X9_maskIn qw1317 (c_X9_maskIn l D A w α (23) plc car bnd bsk dyL rsn x (hB2.sub 14 rfl)) hK hP hD hE hS (hB2 14 _ rfl) rfl rfl rfl hl.1 (Nat.le_of_ble_eq_true rfl) rfl rfl ⟨(Nat.le_of_ble_eq_true rfl), (Nat.le_of_ble_eq_true rfl)⟩ ⟨(Nat.le_of_ble_eq_true rfl), (Nat.le_of_ble_eq_true rfl)⟩ dX11_owners_15) hS rfl (fun locs hS => ?_)
    refine lv_goto (tgt := 22) S.1 S.2.1 dX11_owners_18 (by decide) ?_
    have hf : (f_X11_owners plc bsk x) = (f_X9_maskIn plc bsk x) := cd_t c1
    exact g_iretR S hr hlk hS (by rw [hf] <;> rfl) dX11_owners_22
