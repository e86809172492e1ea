noncomputable def f_X11_keep (day : Int32) (votes : Int32) (isOpen : Int32) (baskets : Int32) (lays : Int32) (recs : Int32) (fneed : Int32) (clos : Int32) (boatO : Nat → Int32) (seaO : Nat → Int32) (faultO : Nat → Int32) (daysO : Nat → Int32) (backB : Nat → Int32) (sailB : Nat → Int32) (plc : Nat → Int32) (car : Nat → Int32) (bnd : Nat → Int32) (bsk : Nat → Int32) (dyL : Nat → Int32) (rsn : Nat → Int32) (pastF : Nat → Int32) (pastN : Int32) (logF : Nat → Int32) (logN : Int32) (kpF : Nat → StT) (kpZ : Nat → Int32) (x : Int32) : Int32 × (Nat → StT) × (Nat → Int32) := (bif (f_X11_isSlot x) then (day, (updS kpF x.toNatClampNeg (day, votes, isOpen, baskets, lays, recs, fneed, clos, boatO, seaO, faultO, daysO, backB, sailB, plc, car, bnd, bsk, dyL, rsn, pastF, pastN, logF, logN)), (upd kpZ x.toNatClampNeg (vp_nar .boolean 1))) else ((-1), kpF, kpZ))
set_option maxHeartbeats 4000000 in
set_option maxRecDepth 100000 in
theorem c_X11_keep (l : Launch) (D : va_G) (A : Nat → Prop) (w : va_W) (α : Nat → Nat) (err : Int32) (pk : Int32) (pst : Int32) (pe : Int32) (tp : Nat → Int32) (tl : Int32) (dnums : Nat → Int32) (dbNames : Nat → Int32) (dpNames : Nat → Int32) (dfBoats : Nat → Int32) (dnB : Int32) (dnP : Int32) (nums : Nat → Int32) (bNames : Nat → Int32) (pNames : Nat → Int32) (fBoats : Nat → Int32) (nB : Int32) (nP : Int32) (day : Int32) (votes : Int32) (isOpen : Int32) (baskets : Int32) (lays : Int32) (recs : Int32) (fneed : Int32) (clos : Int32) (boatO : Nat → Int32) (seaO : Nat → Int32) (faultO : Nat → Int32) (daysO : Nat → Int32) (backB : Nat → Int32) (sailB : Nat → Int32) (plc : Nat → Int32) (car : Nat → Int32) (bnd : Nat → Int32) (bsk : Nat → Int32) (dyL : Nat → Int32) (rsn : Nat → Int32) (pastF : Nat → Int32) (pastN : Int32) (logF : Nat → Int32) (logN : Int32) (blB : Nat → Int32) (blC : Nat → Int32) (hsN : Int32) (hsX : Int32) (hsF : Nat → StT) (kpF : Nat → StT) (kpZ : Nat → Int32) (tx : Nat → Int32) (txl : Int32) (x : Int32) (hV : SVW D α w err pk pst pe tp tl dnums dbNames dpNames dfBoats dnB dnP nums bNames pNames fBoats nB nP day votes isOpen baskets lays recs fneed clos boatO seaO faultO daysO backB sailB plc car bnd bsk dyL rsn pastF pastN logF logN blB blC hsN hsX hsF kpF kpZ tx txl) : Met l yX11_keep (ws_ yX11_keep cX11_keep 2 (some .int)) ({ frames := 4, cells := 0, slots := 0, locals := 103 }) (gPre D A [.ref (α (0)), .int x] w) (gQ D A (some (.int (f_X11_keep day votes isOpen baskets lays recs fneed clos boatO seaO faultO daysO backB sailB plc car bnd bsk dyL rsn pastF pastN logF logN kpF kpZ x).1)) (fun w1 => SVW D α w1 err pk pst pe tp tl dnums dbNames dpNames dfBoats dnB dnP nums bNames pNames fBoats nB nP day votes isOpen baskets lays recs fneed clos boatO seaO faultO daysO backB sailB plc car bnd bsk dyL rsn pastF pastN logF logN blB blC hsN hsX hsF ((f_X11_keep day votes isOpen baskets lays recs fneed clos boatO seaO faultO daysO backB sailB plc car bnd bsk dyL rsn pastF pastN logF logN kpF kpZ x).2.1) ((f_X11_keep day votes isOpen baskets lays recs fneed clos boatO seaO faultO daysO backB sailB plc car bnd bsk dyL rsn pastF pastN logF logN kpF kpZ x).2.2) tx txl ∧ Same w w1 0 234)) 0 0 A := by
  refine g_met [(0, .ref (α (0))), (1, .int x)] (plainFor_of_name (by decide)) (Nat.le_of_ble_eq_true rfl) rfl (fun pg en s mi ar below me co ls S hK hP hD hE hS hr hlk hnm hl => ?_)
  obtain ⟨hB0, hB1, hB2, hH, hKa, hKs, hB3, hB4⟩ := hV
  have hF : Same w w 0 234 := Same.rf
  refine lv_aload_n S.1 S.2.1 dX11_keep_0 rfl (lv_at hl 0 rfl) ?_
  refine lv_iload_n S.1 S.2.1 dX11_keep_1 rfl (lv_at hl 1 rfl) ?_
  refine g_aftR0 (st1 := [.int (b2i (f_X11_isSlot x))]) (g_V (As := [.int x]) (rest := []) S mi_X11_isSlot qw1604 (c_X11_isSlot l D A w α err pk pst pe tp tl dnums dbNames dpNames dfBoats dnB dnP nums bNames pNames fBoats nB nP day votes isOpen baskets lays recs fneed clos boatO seaO faultO daysO backB sailB plc car bnd bsk dyL rsn pastF pastN logF logN blB blC hsN hsX hsF kpF kpZ tx txl x ⟨hB0, hB1, hB2, hH, hKa, hKs, hB3, hB4⟩) hK hP hD hE hS (hB0 0 _ rfl) rfl rfl rfl hl.1 (Nat.le_of_ble_eq_true rfl) rfl rfl ⟨(Nat.le_of_ble_eq_true rfl), (Nat.le_of_ble_eq_true rfl)⟩ ⟨(Nat.le_of_ble_eq_true rfl), (Nat.le_of_ble_eq_true rfl)⟩ dX11_keep_2) hS rfl (fun locs hS => ?_)
  refine g_bifne (b := (f_X11_isSlot x)) (tgt := 10) S dX11_keep_5 (by decide) (fun (c1 : (f_X11_isSlot x) = true) => ?_) (fun (c1 : (f_X11_isSlot x) = false) => ?_)
  · have hsl := isSlot_vin c1; obtain ⟨-, hlt⟩ := vin_nI hsl
    refine lv_aload_n S.1 S.2.1 dX11_keep_10 rfl (lv_at hl 0 rfl) ?_
    refine g_get (v := .ref (α (191))) S hK hP (hB0 0 _ rfl) rfl inX11 6 (by decide) qw364 rfl dX11_keep_11 ?_
    refine lv_iload_n S.1 S.2.1 dX11_keep_14 rfl (lv_at hl 1 rfl) ?_
    refine va_aldq S.1 S.2.1 hK hP 191 3 hKa rfl hsl dX11_keep_15 ?_
    refine lv_aload_n S.1 S.2.1 dX11_keep_16 rfl (lv_at hl 0 rfl) ?_
    refine g_get (v := .ref (α (15))) S hK hP (hB0 0 _ rfl) rfl inX11 4 (by decide) qw362 rfl dX11_keep_17 ?_
    refine g_aft0 (st1 := []) (g_V (As := [.ref (α (15))]) (rest := []) (b := α (192 + 19 * x.toNatClampNeg)) S mi_X8_copyFrom qw1608 (c_copySt l D A w α (192 + 19 * x.toNatClampNeg) 15 _ (day, votes, isOpen, baskets, lays, recs, fneed, clos, boatO, seaO, faultO, daysO, backB, sailB, plc, car, bnd, bsk, dyL, rsn, pastF, pastN, logF, logN) (hKs _ hlt) (hB2.sub 6 rfl) (Or.inl (by omega))) hK hP hD hE hS (hKs _ hlt 0 _ rfl) rfl rfl rfl hl.1 (Nat.le_of_ble_eq_true rfl) rfl rfl ⟨(Nat.le_of_ble_eq_true rfl), (Nat.le_of_ble_eq_true rfl)⟩ ⟨(Nat.le_of_ble_eq_true rfl), (Nat.le_of_ble_eq_true rfl)⟩ dX11_keep_20) hS rfl (fun w1 H locs hQ hP hD hS => ?_)
    have hW : Same w w1 192 38 := ⟨hQ.2.1, fun j hj => hQ.2.2 j (by omega)⟩
    have hKs : HSt D α w1 192 2 (updS kpF x.toNatClampNeg (day, votes, isOpen, baskets, lays, recs, fneed, clos, boatO, seaO, faultO, daysO, backB, sailB, plc, car, bnd, bsk, dyL, rsn, pastF, pastN, logF, logN)) := hKs.put hQ.2 hQ.1
    have hF := Same.call hF 192 hW (Nat.le_of_ble_eq_true rfl)
    have hB0 := hB0.other hW (Or.inl (Nat.le_of_ble_eq_true rfl))
    have hB1 := hB1.other hW (Or.inl (Nat.le_of_ble_eq_true rfl))
    have hB2 := hB2.other hW (Or.inl (Nat.le_of_ble_eq_true rfl))
    have hB3 := hB3.other hW (Or.inr (Nat.le_of_ble_eq_true rfl))
    have hB4 := hB4.other hW (Or.inr (Nat.le_of_ble_eq_true rfl))
    have hH := hH.other hW (Or.inl (Nat.le_of_ble_eq_true rfl))
    have hKa := ((hW).2 191 (Or.inl (Nat.le_of_ble_eq_true rfl))).trans hKa
    refine lv_aload_n S.1 S.2.1 dX11_keep_23 rfl (lv_at hl 0 rfl) ?_
    refine g_get (v := .ref (α (230))) S hK hP (hB0 0 _ rfl) rfl inX11 7 (by decide) qw365 rfl dX11_keep_24 ?_
    refine lv_iload_n S.1 S.2.1 dX11_keep_27 rfl (lv_at hl 1 rfl) ?_
    refine lv_iconst (v := 1) S.1 S.2.1 dX11_keep_28 (by decide) ?_
    refine g_zast S hK hP hD hS (hB3 0 _ rfl) (hsl) dX11_keep_29 (fun w2 H locs hw hP hD hS => ?_)
    have hSm := Same.set (Same.rf (k := 230) (n := 1)) 0 hw (by decide)
    have hF := Same.call hF 230 hSm (Nat.le_of_ble_eq_true rfl)
    have hB3 : Blk w2 230 (cKZ D α 230 (upd kpZ x.toNatClampNeg (vp_nar .boolean 1))) := hB3.set 0 hw (Nat.le_of_ble_eq_true rfl) rfl
    have hB0 := hB0.other hSm (Or.inl (Nat.le_of_ble_eq_true rfl))
    have hB1 := hB1.other hSm (Or.inl (Nat.le_of_ble_eq_true rfl))
    have hB2 := hB2.other hSm (Or.inl (Nat.le_of_ble_eq_true rfl))
    have hB4 := hB4.other hSm (Or.inr (Nat.le_of_ble_eq_true rfl))
    have hKs := hKs.other hSm (Or.inl (Nat.le_of_ble_eq_true rfl))
    have hH := hH.other hSm (Or.inl (Nat.le_of_ble_eq_true rfl))
    have hKa := ((hSm).2 191 (Or.inl (Nat.le_of_ble_eq_true rfl))).trans hKa
    refine lv_aload_n S.1 S.2.1 dX11_keep_30 rfl (lv_at hl 0 rfl) ?_
    refine g_get (v := .ref (α (15))) S hK hP (hB0 0 _ rfl) rfl inX11 4 (by decide) qw362 rfl dX11_keep_31 ?_
    refine g_get (v := .int day) S hK hP (hB2 6 _ rfl) rfl inX8 4 (by decide) qw196 rfl dX11_keep_34 ?_
    have hf : (f_X11_keep day votes isOpen baskets lays recs fneed clos boatO seaO faultO daysO backB sailB plc car bnd bsk dyL rsn pastF pastN logF logN kpF kpZ x) = (day, (updS kpF x.toNatClampNeg (day, votes, isOpen, baskets, lays, recs, fneed, clos, boatO, seaO, faultO, daysO, backB, sailB, plc, car, bnd, bsk, dyL, rsn, pastF, pastN, logF, logN)), (upd kpZ x.toNatClampNeg (vp_nar .boolean 1))) := cd_t c1
    exact g_iret S hr hlk hP hD hS (by rw [hf] <;> rfl) (by rw [hf]; (try dsimp only); exact ⟨⟨hB0, hB1, hB2, hH, hKa, hKs, hB3, hB4⟩, hF⟩) dX11_keep_37
  · refine lv_iconst (v := (-1)) S.1 S.2.1 dX11_keep_8 (by decide) ?_
    have hf : (f_X11_keep day votes isOpen baskets lays recs fneed clos boatO seaO faultO daysO backB sailB plc car bnd bsk dyL rsn pastF pastN logF logN kpF kpZ x) = ((-1), kpF, kpZ) := cd_f c1
    exact g_iret S hr hlk hP hD hS (by rw [hf] <;> rfl) (by rw [hf]; (try dsimp only); exact ⟨⟨hB0, hB1, hB2, hH, hKa, hKs, hB3, hB4⟩, hF⟩) dX11_keep_9
