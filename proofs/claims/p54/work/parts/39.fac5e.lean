noncomputable def S_X11_setupLength_15 (nums : Nat → Int32) (bNames : Nat → Int32) (pNames : Nat → Int32) (nB : Int32) (nP : Int32) (boatO : Nat → Int32) (tx : Nat → Int32) (txl : Int32) : (Nat → Int32) × Int32 := (f_X6_writeSetup tx txl nums bNames pNames nB nP boatO)
noncomputable def f_X11_setupLength (nums : Nat → Int32) (bNames : Nat → Int32) (pNames : Nat → Int32) (nB : Int32) (nP : Int32) (boatO : Nat → Int32) (tx : Nat → Int32) (txl : Int32) : Int32 × (Nat → Int32) × Int32 := (((S_X11_setupLength_15 nums bNames pNames nB nP boatO tx txl).2), (S_X11_setupLength_15 nums bNames pNames nB nP boatO tx txl).1, (S_X11_setupLength_15 nums bNames pNames nB nP boatO tx txl).2)
set_option maxHeartbeats 4000000 in
set_option maxRecDepth 100000 in
theorem c_X11_setupLength (l : Launch) (D : va_G) (A : Nat → Prop) (w : va_W) (α : Nat → Nat) (err : Int32) (pk : Int32) (pst : Int32) (pe : Int32) (tp : Nat → Int32) (tl : Int32) (dnums : Nat → Int32) (dbNames : Nat → Int32) (dpNames : Nat → Int32) (dfBoats : Nat → Int32) (dnB : Int32) (dnP : Int32) (nums : Nat → Int32) (bNames : Nat → Int32) (pNames : Nat → Int32) (fBoats : Nat → Int32) (nB : Int32) (nP : Int32) (day : Int32) (votes : Int32) (isOpen : Int32) (baskets : Int32) (lays : Int32) (recs : Int32) (fneed : Int32) (clos : Int32) (boatO : Nat → Int32) (seaO : Nat → Int32) (faultO : Nat → Int32) (daysO : Nat → Int32) (backB : Nat → Int32) (sailB : Nat → Int32) (plc : Nat → Int32) (car : Nat → Int32) (bnd : Nat → Int32) (bsk : Nat → Int32) (dyL : Nat → Int32) (rsn : Nat → Int32) (pastF : Nat → Int32) (pastN : Int32) (logF : Nat → Int32) (logN : Int32) (blB : Nat → Int32) (blC : Nat → Int32) (hsN : Int32) (hsX : Int32) (hsF : Nat → StT) (kpF : Nat → StT) (kpZ : Nat → Int32) (tx : Nat → Int32) (txl : Int32) (hV : SVW D α w err pk pst pe tp tl dnums dbNames dpNames dfBoats dnB dnP nums bNames pNames fBoats nB nP day votes isOpen baskets lays recs fneed clos boatO seaO faultO daysO backB sailB plc car bnd bsk dyL rsn pastF pastN logF logN blB blC hsN hsX hsF kpF kpZ tx txl) : Met l yX11_setupLength (ws_ yX11_setupLength cX11_setupLength 1 (some .int)) ({ frames := 7, cells := 0, slots := 0, locals := 154 }) (gPre D A [.ref (α (0))] w) (gQ D A (some (.int (f_X11_setupLength nums bNames pNames nB nP boatO tx txl).1)) (fun w1 => SVW D α w1 err pk pst pe tp tl dnums dbNames dpNames dfBoats dnB dnP nums bNames pNames fBoats nB nP day votes isOpen baskets lays recs fneed clos boatO seaO faultO daysO backB sailB plc car bnd bsk dyL rsn pastF pastN logF logN blB blC hsN hsX hsF kpF kpZ ((f_X11_setupLength nums bNames pNames nB nP boatO tx txl).2.1) ((f_X11_setupLength nums bNames pNames nB nP boatO tx txl).2.2) ∧ Same w w1 0 234)) 0 0 A := by
  refine g_met [(0, .ref (α (0)))] (plainFor_of_name (by decide)) (Nat.le_of_ble_eq_true rfl) rfl (fun pg en s mi ar below me co ls S hK hP hD hE hS hr hlk hnm hl => ?_)
  obtain ⟨hB0, hB1, hB2, hH, hKa, hKs, hB3, hB4⟩ := hV
  have hF : Same w w 0 234 := Same.rf
  refine lv_aload_n S.1 S.2.1 dX11_setupLength_0 rfl (lv_at hl 0 rfl) ?_
  refine g_get (v := .ref (α (231))) S hK hP (hB0 0 _ rfl) rfl inX11 8 (by decide) qw366 rfl dX11_setupLength_1 ?_
  refine lv_aload_n S.1 S.2.1 dX11_setupLength_4 rfl (lv_at hl 0 rfl) ?_
  refine g_get (v := .ref (α (10))) S hK hP (hB0 0 _ rfl) rfl inX11 3 (by decide) qw361 rfl dX11_setupLength_5 ?_
  refine lv_aload_n S.1 S.2.1 dX11_setupLength_8 rfl (lv_at hl 0 rfl) ?_
  refine g_get (v := .ref (α (15))) S hK hP (hB0 0 _ rfl) rfl inX11 4 (by decide) qw362 rfl dX11_setupLength_9 ?_
  refine g_get (v := .ref (α (16))) S hK hP (hB2 6 _ rfl) rfl inX8 0 (by decide) qw183 rfl dX11_setupLength_12 ?_
  have hNm : (f_X6_writeSetup tx txl nums bNames pNames nB nP boatO) = (S_X11_setupLength_15 nums bNames pNames nB nP boatO tx txl) := rfl
  have hCon := (c_X6_writeSetup l D A w α (231) tx txl (10) nums bNames pNames fBoats nB nP (16) boatO seaO faultO daysO backB sailB hB4 (hB2.sub 1 rfl) (hB2.sub 7 rfl) (by omega) (by omega))
  rw [hNm] at hCon
  refine g_aft0 (st1 := [.ref (α (232))]) (g_V (As := [.ref (α (10)), .ref (α (16))]) (rest := []) S mi_X6_writeSetup qw1483 hCon hK hP hD hE hS (hB4 0 _ rfl) rfl rfl rfl hl.1 (Nat.le_of_ble_eq_true rfl) rfl rfl ⟨(Nat.le_of_ble_eq_true rfl), (Nat.le_of_ble_eq_true rfl)⟩ ⟨(Nat.le_of_ble_eq_true rfl), (Nat.le_of_ble_eq_true rfl)⟩ dX11_setupLength_15) hS rfl (fun w1 H locs hQ hP hD hS => ?_)
  have hF := Same.call hF 231 hQ.2 (Nat.le_of_ble_eq_true rfl)
  have hB4 : Blk w1 231 (cScribe D α 231 ((S_X11_setupLength_15 nums bNames pNames nB nP boatO tx txl).1) ((S_X11_setupLength_15 nums bNames pNames nB nP boatO tx txl).2)) := hQ.1
  have hB0 := hB0.other hQ.2 (Or.inl (Nat.le_of_ble_eq_true rfl))
  have hB1 := hB1.other hQ.2 (Or.inl (Nat.le_of_ble_eq_true rfl))
  have hB2 := hB2.other hQ.2 (Or.inl (Nat.le_of_ble_eq_true rfl))
  have hB3 := hB3.other hQ.2 (Or.inl (Nat.le_of_ble_eq_true rfl))
  have hH := hH.other hQ.2 (Or.inl (Nat.le_of_ble_eq_true rfl))
  have hKa := ((hQ.2).2 191 (Or.inl (Nat.le_of_ble_eq_true rfl))).trans hKa
  have hKs := hKs.other hQ.2 (Or.inl (Nat.le_of_ble_eq_true rfl))
  refine g_aftR0 (st1 := [.int ((S_X11_setupLength_15 nums bNames pNames nB nP boatO tx txl).2)]) (g_V (As := []) (rest := []) S mi_X1_length qw528 (c_X1_length l D A w1 α (232) 2048 ((S_X11_setupLength_15 nums bNames pNames nB nP boatO tx txl).1) ((S_X11_setupLength_15 nums bNames pNames nB nP boatO tx txl).2) (hB4.sub 1 rfl)) hK hP hD hE hS (hB4 1 _ rfl) rfl rfl rfl hl.1 (Nat.le_of_ble_eq_true rfl) rfl rfl ⟨(Nat.le_of_ble_eq_true rfl), (Nat.le_of_ble_eq_true rfl)⟩ ⟨(Nat.le_of_ble_eq_true rfl), (Nat.le_of_ble_eq_true rfl)⟩ dX11_setupLength_18) hS rfl (fun locs hS => ?_)
  have hf : (f_X11_setupLength nums bNames pNames nB nP boatO tx txl) = (((S_X11_setupLength_15 nums bNames pNames nB nP boatO tx txl).2), (S_X11_setupLength_15 nums bNames pNames nB nP boatO tx txl).1, (S_X11_setupLength_15 nums bNames pNames nB nP boatO tx txl).2) := rfl
  exact g_iret S hr hlk hP hD hS (by rw [hf] <;> rfl) (by rw [hf]; (try dsimp only); exact ⟨⟨hB0, hB1, hB2, hH, hKa, hKs, hB3, hB4⟩, hF⟩) dX11_setupLength_21
