noncomputable def f_X11_seafaring (nP : Int32) (day : Int32) (daysO : Nat → Int32) : UInt64 := (if (day.toInt64 * nP.toInt64) = 0 then FP.dconst0 else (FP.ddiv (FP.l2d (f_X2_daysAtSeaOfAll daysO)) (FP.l2d (day.toInt64 * nP.toInt64))))
set_option maxHeartbeats 4000000 in
set_option maxRecDepth 100000 in
theorem c_X11_seafaring (l : Launch) (D : va_G) (A : Nat → Prop) (w : va_W) (α : Nat → Nat) (err : Int32) (pk : Int32) (pst : Int32) (pe : Int32) (tp : Nat → Int32) (tl : Int32) (dnums : Nat → Int32) (dbNames : Nat → Int32) (dpNames : Nat → Int32) (dfBoats : Nat → Int32) (dnB : Int32) (dnP : Int32) (nums : Nat → Int32) (bNames : Nat → Int32) (pNames : Nat → Int32) (fBoats : Nat → Int32) (nB : Int32) (nP : Int32) (day : Int32) (votes : Int32) (isOpen : Int32) (baskets : Int32) (lays : Int32) (recs : Int32) (fneed : Int32) (clos : Int32) (boatO : Nat → Int32) (seaO : Nat → Int32) (faultO : Nat → Int32) (daysO : Nat → Int32) (backB : Nat → Int32) (sailB : Nat → Int32) (plc : Nat → Int32) (car : Nat → Int32) (bnd : Nat → Int32) (bsk : Nat → Int32) (dyL : Nat → Int32) (rsn : Nat → Int32) (pastF : Nat → Int32) (pastN : Int32) (logF : Nat → Int32) (logN : Int32) (blB : Nat → Int32) (blC : Nat → Int32) (hsN : Int32) (hsX : Int32) (hsF : Nat → StT) (kpF : Nat → StT) (kpZ : Nat → Int32) (tx : Nat → Int32) (txl : Int32) (hV : SVW D α w err pk pst pe tp tl dnums dbNames dpNames dfBoats dnB dnP nums bNames pNames fBoats nB nP day votes isOpen baskets lays recs fneed clos boatO seaO faultO daysO backB sailB plc car bnd bsk dyL rsn pastF pastN logF logN blB blC hsN hsX hsF kpF kpZ tx txl) : MetD lw_cs l yX11_seafaring (ws_ yX11_seafaring cX11_seafaring 3 (some .double)) ({ frames := 3, cells := 0, slots := 0, locals := 66 }) (gPre D A [.ref (α (0))] w) (gD (f_X11_seafaring nP day daysO)) 0 0 A := by
  refine g_metD [(0, .ref (α (0)))] (by decide) (Nat.le_of_ble_eq_true rfl) rfl (fun pg en s mi ar below me co ls Z hEnd S hK hP hD hE hS hr hlk hnm hl => ?_)
  obtain ⟨hB0, hB1, hB2, hH, hKa, hKs, hB3, hB4⟩ := hV
  refine lv_aload_n S.1 S.2.1 dX11_seafaring_0 rfl (lv_at hl 0 rfl) ?_
  refine g_get (v := .ref (α (15))) S hK hP (hB0 0 _ rfl) rfl inX11 4 (by decide) qw362 rfl dX11_seafaring_1 ?_
  refine g_get (v := .int day) S hK hP (hB2 6 _ rfl) rfl inX8 4 (by decide) qw196 rfl dX11_seafaring_4 ?_
  refine lv_i2l (v := day.toInt64) S.1 S.2.1 dX11_seafaring_7 rfl ?_
  refine lv_aload_n S.1 S.2.1 dX11_seafaring_8 rfl (lv_at hl 0 rfl) ?_
  refine g_get (v := .ref (α (10))) S hK hP (hB0 0 _ rfl) rfl inX11 3 (by decide) qw361 rfl dX11_seafaring_9 ?_
  refine g_aftR0 (st1 := [.int nP, .long day.toInt64]) (g_V (As := []) (rest := [.long day.toInt64]) S mi_X7_people qw471 (c_X7_people l D A w α (10) nums bNames pNames fBoats nB nP (hB2.sub 1 rfl)) hK hP hD hE hS (hB2 1 _ rfl) rfl rfl rfl hl.1 (Nat.le_of_ble_eq_true rfl) rfl rfl ⟨(Nat.le_of_ble_eq_true rfl), (Nat.le_of_ble_eq_true rfl)⟩ ⟨(Nat.le_of_ble_eq_true rfl), (Nat.le_of_ble_eq_true rfl)⟩ dX11_seafaring_12) hS rfl (fun locs hS => ?_)
  refine lv_i2l (v := nP.toInt64) S.1 S.2.1 dX11_seafaring_15 rfl ?_
  refine lv_lmul S.1 S.2.1 dX11_seafaring_16 ?_
  refine lv_lstore_n (lv' := [(1, .long (day.toInt64 * nP.toInt64)), (0, .ref (α (0)))]) S.1 S.2.1 dX11_seafaring_17 rfl hl (by decide) rfl (fun ls hl => ?_)
  refine lv_lload_n S.1 S.2.1 dX11_seafaring_18 rfl (lv_at hl 0 rfl) ?_
  refine lv_lconst (v := 0) S.1 S.2.1 dX11_seafaring_19 (by decide) ?_
  refine W.lcmp S.1 S.2.1 dX11_seafaring_20 ?_
  refine lv_if_ne (tgt := 28) S.1 S.2.1 dX11_seafaring_21 (by decide) (fun c1 => ?_) (fun c1 => ?_)
  · have c1 : ¬ ((day.toInt64 * nP.toInt64) = 0) := fun h => c1 (lgc0.mpr h)
    refine lv_aload_n S.1 S.2.1 dX11_seafaring_28 rfl (lv_at hl 1 rfl) ?_
    refine g_get (v := .ref (α (15))) S hK hP (hB0 0 _ rfl) rfl inX11 4 (by decide) qw362 rfl dX11_seafaring_29 ?_
    refine g_get (v := .ref (α (16))) S hK hP (hB2 6 _ rfl) rfl inX8 0 (by decide) qw183 rfl dX11_seafaring_32 ?_
    refine g_aftR0 (st1 := [.long (f_X2_daysAtSeaOfAll daysO)]) (g_V (As := []) (rest := []) S mi_X2_daysAtSeaOfAll qw1369 (c_X2_daysAtSeaOfAll l D A w α (16) boatO seaO faultO daysO backB sailB (hB2.sub 7 rfl)) hK hP hD hE hS (hB2 7 _ rfl) rfl rfl rfl hl.1 (Nat.le_of_ble_eq_true rfl) rfl rfl ⟨(Nat.le_of_ble_eq_true rfl), (Nat.le_of_ble_eq_true rfl)⟩ ⟨(Nat.le_of_ble_eq_true rfl), (Nat.le_of_ble_eq_true rfl)⟩ dX11_seafaring_35) hS rfl (fun locs hS => ?_)
    refine lv_l2d S.1 S.2.1 dX11_seafaring_38 ?_
    refine lv_lload_n S.1 S.2.1 dX11_seafaring_39 rfl (lv_at hl 0 rfl) ?_
    refine lv_l2d S.1 S.2.1 dX11_seafaring_40 ?_
    refine W.base (lv_ddiv_any (Drawn.sameBut.refl s.drawn lw_cs) lw_bits S.1 S.2.1 dX11_seafaring_41 (fun r d1 hal hd1 => ?_))
    have hf : (f_X11_seafaring nP day daysO) = (FP.ddiv (FP.l2d (f_X2_daysAtSeaOfAll daysO)) (FP.l2d (day.toInt64 * nP.toInt64))) := if_neg c1
    exact hEnd d1 _ _ _ _ _ hd1 (g_dretD S.1 S.2.1 hr hlk hS (by rw [hf]; exact hal) dX11_seafaring_42)
  · have c1 : (day.toInt64 * nP.toInt64) = 0 := lgc0.mp c1
    refine lv_dconst0 S.1 S.2.1 dX11_seafaring_24 ?_
    refine lv_goto (tgt := 42) S.1 S.2.1 dX11_seafaring_25 (by decide) ?_
    have hf : (f_X11_seafaring nP day daysO) = FP.dconst0 := if_pos c1
    exact W.base (hEnd s.drawn _ _ _ _ _ (Drawn.sameBut.refl s.drawn lw_cs) (g_dretD S.1 S.2.1 hr hlk hS (by rw [hf]; exact alike64_refl _) dX11_seafaring_42))
