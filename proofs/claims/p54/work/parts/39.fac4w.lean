noncomputable def f_X11_agrees (lays : Int32) (plc : Nat → Int32) : Bool := (if ((f_X9_turnout plc) + (f_X9_struckOnes plc)) = lays then true else false)
set_option maxHeartbeats 4000000 in
set_option maxRecDepth 100000 in
theorem c_X11_agrees (l : Launch) (D : va_G) (A : Nat → Prop) (w : va_W) (α : Nat → Nat) (err : Int32) (pk : Int32) (pst : Int32) (pe : Int32) (tp : Nat → Int32) (tl : Int32) (dnums : Nat → Int32) (dbNames : Nat → Int32) (dpNames : Nat → Int32) (dfBoats : Nat → Int32) (dnB : Int32) (dnP : Int32) (nums : Nat → Int32) (bNames : Nat → Int32) (pNames : Nat → Int32) (fBoats : Nat → Int32) (nB : Int32) (nP : Int32) (day : Int32) (votes : Int32) (isOpen : Int32) (baskets : Int32) (lays : Int32) (recs : Int32) (fneed : Int32) (clos : Int32) (boatO : Nat → Int32) (seaO : Nat → Int32) (faultO : Nat → Int32) (daysO : Nat → Int32) (backB : Nat → Int32) (sailB : Nat → Int32) (plc : Nat → Int32) (car : Nat → Int32) (bnd : Nat → Int32) (bsk : Nat → Int32) (dyL : Nat → Int32) (rsn : Nat → Int32) (pastF : Nat → Int32) (pastN : Int32) (logF : Nat → Int32) (logN : Int32) (blB : Nat → Int32) (blC : Nat → Int32) (hsN : Int32) (hsX : Int32) (hsF : Nat → StT) (kpF : Nat → StT) (kpZ : Nat → Int32) (tx : Nat → Int32) (txl : Int32) (hV : SVW D α w err pk pst pe tp tl dnums dbNames dpNames dfBoats dnB dnP nums bNames pNames fBoats nB nP day votes isOpen baskets lays recs fneed clos boatO seaO faultO daysO backB sailB plc car bnd bsk dyL rsn pastF pastN logF logN blB blC hsN hsX hsF kpF kpZ tx txl) : Met l yX11_agrees (ws_ yX11_agrees cX11_agrees 1 (some .boolean)) ({ frames := 4, cells := 0, slots := 0, locals := 86 }) (gPre D A [.ref (α (0))] w) (gR (some (.int (b2i (f_X11_agrees lays plc))))) 0 0 A := by
  refine g_met [(0, .ref (α (0)))] (plainFor_of_name (by decide)) (Nat.le_of_ble_eq_true rfl) rfl (fun pg en s mi ar below me co ls S hK hP hD hE hS hr hlk hnm hl => ?_)
  obtain ⟨hB0, hB1, hB2, hH, hKa, hKs, hB3, hB4⟩ := hV
  refine lv_aload_n S.1 S.2.1 dX11_agrees_0 rfl (lv_at hl 0 rfl) ?_
  refine g_get (v := .ref (α (15))) S hK hP (hB0 0 _ rfl) rfl inX11 4 (by decide) qw362 rfl dX11_agrees_1 ?_
  refine g_get (v := .ref (α (23))) S hK hP (hB2 6 _ rfl) rfl inX8 1 (by decide) qw187 rfl dX11_agrees_4 ?_
  refine g_aftR0 (st1 := [.int (f_X9_turnout plc)]) (g_V (As := []) (rest := []) S mi_X9_turnout qw767 (c_X9_turnout l D A w α (23) plc car bnd bsk dyL rsn (hB2.sub 14 rfl)) hK hP hD hE hS (hB2 14 _ rfl) rfl rfl rfl hl.1 (Nat.le_of_ble_eq_true rfl) rfl rfl ⟨(Nat.le_of_ble_eq_true rfl), (Nat.le_of_ble_eq_true rfl)⟩ ⟨(Nat.le_of_ble_eq_true rfl), (Nat.le_of_ble_eq_true rfl)⟩ dX11_agrees_7) hS rfl (fun locs hS => ?_)
  refine lv_aload_n S.1 S.2.1 dX11_agrees_10 rfl (lv_at hl 0 rfl) ?_
  refine g_get (v := .ref (α (15))) S hK hP (hB0 0 _ rfl) rfl inX11 4 (by decide) qw362 rfl dX11_agrees_11 ?_
  refine g_get (v := .ref (α (23))) S hK hP (hB2 6 _ rfl) rfl inX8 1 (by decide) qw187 rfl dX11_agrees_14 ?_
  refine g_aftR0 (st1 := [.int (f_X9_struckOnes plc), .int (f_X9_turnout plc)]) (g_V (As := []) (rest := [.int (f_X9_turnout plc)]) S mi_X9_struckOnes qw812 (c_X9_struckOnes l D A w α (23) plc car bnd bsk dyL rsn (hB2.sub 14 rfl)) hK hP hD hE hS (hB2 14 _ rfl) rfl rfl rfl hl.1 (Nat.le_of_ble_eq_true rfl) rfl rfl ⟨(Nat.le_of_ble_eq_true rfl), (Nat.le_of_ble_eq_true rfl)⟩ ⟨(Nat.le_of_ble_eq_true rfl), (Nat.le_of_ble_eq_true rfl)⟩ dX11_agrees_17) hS rfl (fun locs hS => ?_)
  refine lv_iadd S.1 S.2.1 dX11_agrees_20 ?_
  refine lv_aload_n S.1 S.2.1 dX11_agrees_21 rfl (lv_at hl 0 rfl) ?_
  refine g_get (v := .ref (α (15))) S hK hP (hB0 0 _ rfl) rfl inX11 4 (by decide) qw362 rfl dX11_agrees_22 ?_
  refine g_get (v := .int lays) S hK hP (hB2 6 _ rfl) rfl inX8 8 (by decide) qw206 rfl dX11_agrees_25 ?_
  refine lv_icmp_ne (tgt := 35) S.1 S.2.1 dX11_agrees_28 (by decide) (fun (c1 : ¬ ((f_X9_turnout plc) + (f_X9_struckOnes plc)) = lays) => ?_) (fun (c1 : ((f_X9_turnout plc) + (f_X9_struckOnes plc)) = lays) => ?_)
  · refine lv_iconst (v := 0) S.1 S.2.1 dX11_agrees_35 (by decide) ?_
    have hf : (f_X11_agrees lays plc) = false := if_neg c1
    exact g_zretR S hr hlk hS rfl (by rw [hf] <;> rfl) dX11_agrees_36
  · refine lv_iconst (v := 1) S.1 S.2.1 dX11_agrees_31 (by decide) ?_
    refine lv_goto (tgt := 36) S.1 S.2.1 dX11_agrees_32 (by decide) ?_
    have hf : (f_X11_agrees lays plc) = true := if_pos c1
    exact g_zretR S hr hlk hS rfl (by rw [hf] <;> rfl) dX11_agrees_36
