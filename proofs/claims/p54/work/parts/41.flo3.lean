noncomputable def f_X11_share (plc : Nat → Int32) (bsk : Nat → Int32) (x : Int32) : UInt32 := (bif (f_X11_isBasket x) then (if (f_X9_turnout plc) = 0 then FP.fconst0 else (FP.fdiv (FP.i2f (f_X9_countIn plc bsk x)) (FP.i2f (f_X9_turnout plc)))) else 3212836864)
set_option maxHeartbeats 4000000 in
set_option maxRecDepth 100000 in
theorem c_X11_share (l : Launch) (D : va_G) (A : Nat → Prop) (w : va_W) (α : Nat → Nat) (err : Int32) (pk : Int32) (pst : Int32) (pe : Int32) (tp : Nat → Int32) (tl : Int32) (dnums : Nat → Int32) (dbNames : Nat → Int32) (dpNames : Nat → Int32) (dfBoats : Nat → Int32) (dnB : Int32) (dnP : Int32) (nums : Nat → Int32) (bNames : Nat → Int32) (pNames : Nat → Int32) (fBoats : Nat → Int32) (nB : Int32) (nP : Int32) (day : Int32) (votes : Int32) (isOpen : Int32) (baskets : Int32) (lays : Int32) (recs : Int32) (fneed : Int32) (clos : Int32) (boatO : Nat → Int32) (seaO : Nat → Int32) (faultO : Nat → Int32) (daysO : Nat → Int32) (backB : Nat → Int32) (sailB : Nat → Int32) (plc : Nat → Int32) (car : Nat → Int32) (bnd : Nat → Int32) (bsk : Nat → Int32) (dyL : Nat → Int32) (rsn : Nat → Int32) (pastF : Nat → Int32) (pastN : Int32) (logF : Nat → Int32) (logN : Int32) (blB : Nat → Int32) (blC : Nat → Int32) (hsN : Int32) (hsX : Int32) (hsF : Nat → StT) (kpF : Nat → StT) (kpZ : Nat → Int32) (tx : Nat → Int32) (txl : Int32) (x : Int32) (hV : SVW D α w err pk pst pe tp tl dnums dbNames dpNames dfBoats dnB dnP nums bNames pNames fBoats nB nP day votes isOpen baskets lays recs fneed clos boatO seaO faultO daysO backB sailB plc car bnd bsk dyL rsn pastF pastN logF logN blB blC hsN hsX hsF kpF kpZ tx txl) : MetD lw_cs l yX11_share (ws_ yX11_share cX11_share 3 (some .float)) ({ frames := 4, cells := 0, slots := 0, locals := 87 }) (gPre D A [.ref (α (0)), .int x] w) (gF (f_X11_share plc bsk x)) 0 0 A := by
  refine g_metD [(0, .ref (α (0))), (1, .int x)] (by decide) (Nat.le_of_ble_eq_true rfl) rfl (fun pg en s mi ar below me co ls Z hEnd S hK hP hD hE hS hr hlk hnm hl => ?_)
  obtain ⟨hB0, hB1, hB2, hH, hKa, hKs, hB3, hB4⟩ := hV
  refine lv_iload_n S.1 S.2.1 dX11_share_0 rfl (lv_at hl 1 rfl) ?_
  refine g_aftR0 (st1 := [.int (b2i (f_X11_isBasket x))]) (g_St (As := [.int x]) (rest := []) S ms_X11_isBasket qw1155 (c_X11_isBasket l D A w α x) hK hP hD hE hS rfl rfl hl.1 (Nat.le_of_ble_eq_true rfl) rfl rfl ⟨(Nat.le_of_ble_eq_true rfl), (Nat.le_of_ble_eq_true rfl)⟩ ⟨(Nat.le_of_ble_eq_true rfl), (Nat.le_of_ble_eq_true rfl)⟩ dX11_share_1) hS rfl (fun locs hS => ?_)
  refine g_bifne (b := (f_X11_isBasket x)) (tgt := 11) S dX11_share_4 (by decide) (fun (c1 : (f_X11_isBasket x) = true) => ?_) (fun (c1 : (f_X11_isBasket x) = false) => ?_)
  · refine lv_aload_n S.1 S.2.1 dX11_share_11 rfl (lv_at hl 0 rfl) ?_
    refine g_get (v := .ref (α (15))) S hK hP (hB0 0 _ rfl) rfl inX11 4 (by decide) qw362 rfl dX11_share_12 ?_
    refine g_get (v := .ref (α (23))) S hK hP (hB2 6 _ rfl) rfl inX8 1 (by decide) qw187 rfl dX11_share_15 ?_
    refine g_aftR0 (st1 := [.int (f_X9_turnout plc)]) (g_V (As := []) (rest := []) S mi_X9_turnout qw767 (c_X9_turnout l D A w α (23) plc car bnd bsk dyL rsn (hB2.sub 14 rfl)) hK hP hD hE hS (hB2 14 _ rfl) rfl rfl rfl hl.1 (Nat.le_of_ble_eq_true rfl) rfl rfl ⟨(Nat.le_of_ble_eq_true rfl), (Nat.le_of_ble_eq_true rfl)⟩ ⟨(Nat.le_of_ble_eq_true rfl), (Nat.le_of_ble_eq_true rfl)⟩ dX11_share_18) hS rfl (fun locs hS => ?_)
    refine lv_istore_n (lv' := [(2, .int (f_X9_turnout plc)), (0, .ref (α (0))), (1, .int x)]) S.1 S.2.1 dX11_share_21 rfl hl (by decide) rfl (fun ls hl => ?_)
    refine lv_iload_n S.1 S.2.1 dX11_share_22 rfl (lv_at hl 0 rfl) ?_
    refine lv_if_ne (tgt := 30) S.1 S.2.1 dX11_share_23 (by decide) (fun (c2 : ¬ (f_X9_turnout plc) = 0) => ?_) (fun (c2 : (f_X9_turnout plc) = 0) => ?_)
    · refine lv_aload_n S.1 S.2.1 dX11_share_30 rfl (lv_at hl 1 rfl) ?_
      refine g_get (v := .ref (α (15))) S hK hP (hB0 0 _ rfl) rfl inX11 4 (by decide) qw362 rfl dX11_share_31 ?_
      refine g_get (v := .ref (α (23))) S hK hP (hB2 6 _ rfl) rfl inX8 1 (by decide) qw187 rfl dX11_share_34 ?_
      refine lv_iload_n S.1 S.2.1 dX11_share_37 rfl (lv_at hl 2 rfl) ?_
      refine g_aftR0 (st1 := [.int (f_X9_countIn plc bsk x)]) (g_V (As := [.int x]) (rest := []) S mi_X9_countIn qw1350 (c_X9_countIn l D A w α (23) plc car bnd bsk dyL rsn x (hB2.sub 14 rfl)) hK hP hD hE hS (hB2 14 _ rfl) rfl rfl rfl hl.1 (Nat.le_of_ble_eq_true rfl) rfl rfl ⟨(Nat.le_of_ble_eq_true rfl), (Nat.le_of_ble_eq_true rfl)⟩ ⟨(Nat.le_of_ble_eq_true rfl), (Nat.le_of_ble_eq_true rfl)⟩ dX11_share_38) hS rfl (fun locs hS => ?_)
      refine lv_i2f S.1 S.2.1 dX11_share_41 ?_
      refine lv_iload_n S.1 S.2.1 dX11_share_42 rfl (lv_at hl 0 rfl) ?_
      refine lv_i2f S.1 S.2.1 dX11_share_43 ?_
      refine W.base (lv_fdiv_any (Drawn.sameBut.refl s.drawn lw_cs) lw_bits S.1 S.2.1 dX11_share_44 (fun r d1 hal hd1 => ?_))
      have hf : (f_X11_share plc bsk x) = (FP.fdiv (FP.i2f (f_X9_countIn plc bsk x)) (FP.i2f (f_X9_turnout plc))) := (cd_t c1).trans (if_neg c2)
      exact hEnd d1 _ _ _ _ _ hd1 (g_fretD S.1 S.2.1 hr hlk hS (by rw [hf]; exact hal) dX11_share_45)
    · refine lv_fconst0 S.1 S.2.1 dX11_share_26 ?_
      refine lv_goto (tgt := 45) S.1 S.2.1 dX11_share_27 (by decide) ?_
      have hf : (f_X11_share plc bsk x) = FP.fconst0 := (cd_t c1).trans (if_pos c2)
      exact W.base (hEnd s.drawn _ _ _ _ _ (Drawn.sameBut.refl s.drawn lw_cs) (g_fretD S.1 S.2.1 hr hlk hS (by rw [hf]; exact alike32_refl _) dX11_share_45))
  · refine lv_ldcwf (v := 3212836864) S.1 S.2.1 S.2.2.2.1 (S.2.2.2.2 _ qw1355) dX11_share_7 ?_
    have hf : (f_X11_share plc bsk x) = 3212836864 := cd_f c1
    exact W.base (hEnd s.drawn _ _ _ _ _ (Drawn.sameBut.refl s.drawn lw_cs) (g_fretD S.1 S.2.1 hr hlk hS (by rw [hf]; exact alike32_refl _) dX11_share_10))
