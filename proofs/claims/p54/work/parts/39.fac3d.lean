noncomputable def S_X11_join_69 (day : Int32) (votes : Int32) (isOpen : Int32) (baskets : Int32) (lays : Int32) (recs : Int32) (fneed : Int32) (clos : Int32) (boatO : Nat → Int32) (seaO : Nat → Int32) (faultO : Nat → Int32) (daysO : Nat → Int32) (backB : Nat → Int32) (sailB : Nat → Int32) (plc : Nat → Int32) (car : Nat → Int32) (bnd : Nat → Int32) (bsk : Nat → Int32) (dyL : Nat → Int32) (rsn : Nat → Int32) (pastF : Nat → Int32) (pastN : Int32) (logF : Nat → Int32) (logN : Int32) (hsN : Int32) (hsX : Int32) (hsF : Nat → StT) : Int32 × Int32 × (Nat → StT) := (f_X3_remember hsN hsX hsF (day, votes, isOpen, baskets, lays, recs, fneed, clos, boatO, seaO, faultO, daysO, backB, sailB, plc, car, bnd, bsk, dyL, rsn, pastF, pastN, logF, logN))
noncomputable def S_X11_join_81 (boatO : Nat → Int32) (x : Int32) (y : Int32) : (Nat → Int32) := (f_X2_assign boatO x y)
noncomputable def S_X11_join_69a (day : Int32) (votes : Int32) (isOpen : Int32) (baskets : Int32) (lays : Int32) (recs : Int32) (fneed : Int32) (clos : Int32) (boatO : Nat → Int32) (seaO : Nat → Int32) (faultO : Nat → Int32) (daysO : Nat → Int32) (backB : Nat → Int32) (sailB : Nat → Int32) (plc : Nat → Int32) (car : Nat → Int32) (bnd : Nat → Int32) (bsk : Nat → Int32) (dyL : Nat → Int32) (rsn : Nat → Int32) (pastF : Nat → Int32) (pastN : Int32) (logF : Nat → Int32) (logN : Int32) (hsN : Int32) (hsX : Int32) (hsF : Nat → StT) : Int32 × Int32 × (Nat → StT) := (f_X3_remember hsN hsX hsF (day, votes, isOpen, baskets, lays, recs, fneed, clos, boatO, seaO, faultO, daysO, backB, sailB, plc, car, bnd, bsk, dyL, rsn, pastF, pastN, logF, logN))
noncomputable def S_X11_join_81a (boatO : Nat → Int32) (x : Int32) (y : Int32) : (Nat → Int32) := (f_X2_assign boatO x y)
noncomputable def f_X11_join (nB : Int32) (nP : Int32) (day : Int32) (votes : Int32) (isOpen : Int32) (baskets : Int32) (lays : Int32) (recs : Int32) (fneed : Int32) (clos : Int32) (boatO : Nat → Int32) (seaO : Nat → Int32) (faultO : Nat → Int32) (daysO : Nat → Int32) (backB : Nat → Int32) (sailB : Nat → Int32) (plc : Nat → Int32) (car : Nat → Int32) (bnd : Nat → Int32) (bsk : Nat → Int32) (dyL : Nat → Int32) (rsn : Nat → Int32) (pastF : Nat → Int32) (pastN : Int32) (logF : Nat → Int32) (logN : Int32) (hsN : Int32) (hsX : Int32) (hsF : Nat → StT) (x : Int32) (y : Int32) : Int32 × (Nat → Int32) × (Nat → StT) × Int32 × Int32 := (bif (f_X11_isPerson nP x) then (if y = (-2) then (bif (f_X2_isAtSea seaO x) then ((-3), boatO, hsF, hsN, hsX) else (if (f_X2_boatOf boatO x) = y then ((-2), boatO, hsF, hsN, hsX) else (if (f_X2_boatOf boatO x) = (-2) then (0, (S_X11_join_81 boatO x y), (S_X11_join_69 day votes isOpen baskets lays recs fneed clos boatO seaO faultO daysO backB sailB plc car bnd bsk dyL rsn pastF pastN logF logN hsN hsX hsF).2.2, (S_X11_join_69 day votes isOpen baskets lays recs fneed clos boatO seaO faultO daysO backB sailB plc car bnd bsk dyL rsn pastF pastN logF logN hsN hsX hsF).1, (S_X11_join_69 day votes isOpen baskets lays recs fneed clos boatO seaO faultO daysO backB sailB plc car bnd bsk dyL rsn pastF pastN logF logN hsN hsX hsF).2.1) else (((f_X2_boatOf boatO x) + 1), (S_X11_join_81 boatO x y), (S_X11_join_69 day votes isOpen baskets lays recs fneed clos boatO seaO faultO daysO backB sailB plc car bnd bsk dyL rsn pastF pastN logF logN hsN hsX hsF).2.2, (S_X11_join_69 day votes isOpen baskets lays recs fneed clos boatO seaO faultO daysO backB sailB plc car bnd bsk dyL rsn pastF pastN logF logN hsN hsX hsF).1, (S_X11_join_69 day votes isOpen baskets lays recs fneed clos boatO seaO faultO daysO backB sailB plc car bnd bsk dyL rsn pastF pastN logF logN hsN hsX hsF).2.1)))) else (bif (f_X11_isBoat nB y) then (bif (f_X2_isAtSea seaO x) then ((-3), boatO, hsF, hsN, hsX) else (if (f_X2_boatOf boatO x) = y then ((-2), boatO, hsF, hsN, hsX) else (if (f_X2_boatOf boatO x) = (-2) then (0, (S_X11_join_81a boatO x y), (S_X11_join_69a day votes isOpen baskets lays recs fneed clos boatO seaO faultO daysO backB sailB plc car bnd bsk dyL rsn pastF pastN logF logN hsN hsX hsF).2.2, (S_X11_join_69a day votes isOpen baskets lays recs fneed clos boatO seaO faultO daysO backB sailB plc car bnd bsk dyL rsn pastF pastN logF logN hsN hsX hsF).1, (S_X11_join_69a day votes isOpen baskets lays recs fneed clos boatO seaO faultO daysO backB sailB plc car bnd bsk dyL rsn pastF pastN logF logN hsN hsX hsF).2.1) else (((f_X2_boatOf boatO x) + 1), (S_X11_join_81a boatO x y), (S_X11_join_69a day votes isOpen baskets lays recs fneed clos boatO seaO faultO daysO backB sailB plc car bnd bsk dyL rsn pastF pastN logF logN hsN hsX hsF).2.2, (S_X11_join_69a day votes isOpen baskets lays recs fneed clos boatO seaO faultO daysO backB sailB plc car bnd bsk dyL rsn pastF pastN logF logN hsN hsX hsF).1, (S_X11_join_69a day votes isOpen baskets lays recs fneed clos boatO seaO faultO daysO backB sailB plc car bnd bsk dyL rsn pastF pastN logF logN hsN hsX hsF).2.1)))) else ((-1), boatO, hsF, hsN, hsX))) else ((-1), boatO, hsF, hsN, hsX))
set_option maxHeartbeats 4000000 in
set_option maxRecDepth 100000 in
theorem c_X11_join (l : Launch) (D : va_G) (A : Nat → Prop) (w : va_W) (α : Nat → Nat) (err : Int32) (pk : Int32) (pst : Int32) (pe : Int32) (tp : Nat → Int32) (tl : Int32) (dnums : Nat → Int32) (dbNames : Nat → Int32) (dpNames : Nat → Int32) (dfBoats : Nat → Int32) (dnB : Int32) (dnP : Int32) (nums : Nat → Int32) (bNames : Nat → Int32) (pNames : Nat → Int32) (fBoats : Nat → Int32) (nB : Int32) (nP : Int32) (day : Int32) (votes : Int32) (isOpen : Int32) (baskets : Int32) (lays : Int32) (recs : Int32) (fneed : Int32) (clos : Int32) (boatO : Nat → Int32) (seaO : Nat → Int32) (faultO : Nat → Int32) (daysO : Nat → Int32) (backB : Nat → Int32) (sailB : Nat → Int32) (plc : Nat → Int32) (car : Nat → Int32) (bnd : Nat → Int32) (bsk : Nat → Int32) (dyL : Nat → Int32) (rsn : Nat → Int32) (pastF : Nat → Int32) (pastN : Int32) (logF : Nat → Int32) (logN : Int32) (blB : Nat → Int32) (blC : Nat → Int32) (hsN : Int32) (hsX : Int32) (hsF : Nat → StT) (kpF : Nat → StT) (kpZ : Nat → Int32) (tx : Nat → Int32) (txl : Int32) (x : Int32) (y : Int32) (hV : SVW D α w err pk pst pe tp tl dnums dbNames dpNames dfBoats dnB dnP nums bNames pNames fBoats nB nP day votes isOpen baskets lays recs fneed clos boatO seaO faultO daysO backB sailB plc car bnd bsk dyL rsn pastF pastN logF logN blB blC hsN hsX hsF kpF kpZ tx txl) : Met l yX11_join (ws_ yX11_join cX11_join 4 (some .int)) ({ frames := 5, cells := 0, slots := 0, locals := 124 }) (gPre D A [.ref (α (0)), .int x, .int y] w) (gQ D A (some (.int (f_X11_join nB nP day votes isOpen baskets lays recs fneed clos boatO seaO faultO daysO backB sailB plc car bnd bsk dyL rsn pastF pastN logF logN hsN hsX hsF x y).1)) (fun w1 => SVW D α w1 err pk pst pe tp tl dnums dbNames dpNames dfBoats dnB dnP nums bNames pNames fBoats nB nP day votes isOpen baskets lays recs fneed clos ((f_X11_join nB nP day votes isOpen baskets lays recs fneed clos boatO seaO faultO daysO backB sailB plc car bnd bsk dyL rsn pastF pastN logF logN hsN hsX hsF x y).2.1) seaO faultO daysO backB sailB plc car bnd bsk dyL rsn pastF pastN logF logN blB blC ((f_X11_join nB nP day votes isOpen baskets lays recs fneed clos boatO seaO faultO daysO backB sailB plc car bnd bsk dyL rsn pastF pastN logF logN hsN hsX hsF x y).2.2.2.1) ((f_X11_join nB nP day votes isOpen baskets lays recs fneed clos boatO seaO faultO daysO backB sailB plc car bnd bsk dyL rsn pastF pastN logF logN hsN hsX hsF x y).2.2.2.2) ((f_X11_join nB nP day votes isOpen baskets lays recs fneed clos boatO seaO faultO daysO backB sailB plc car bnd bsk dyL rsn pastF pastN logF logN hsN hsX hsF x y).2.2.1) kpF kpZ tx txl ∧ Same w w1 0 234)) 0 0 A := by
  refine g_met [(0, .ref (α (0))), (1, .int x), (2, .int y)] (plainFor_of_name (by decide)) (Nat.le_of_ble_eq_true rfl) rfl (fun pg en s mi ar below me co ls S hK hP hD hE hS hr hlk hnm hl => ?_)
  obtain ⟨hB0, hB1, hB2, hH, hKa, hKs, hB3, hB4⟩ := hV
  have hF : Same w w 0 234 := Same.rf
  refine lv_aload_n S.1 S.2.1 dX11_join_0 rfl (lv_at hl 0 rfl) ?_
  refine lv_iload_n S.1 S.2.1 dX11_join_1 rfl (lv_at hl 1 rfl) ?_
  refine g_aftR0 (st1 := [.int (b2i (f_X11_isPerson nP x))]) (g_V (As := [.int x]) (rest := []) S mi_X11_isPerson qw467 (c_X11_isPerson l D A w α err pk pst pe tp tl dnums dbNames dpNames dfBoats dnB dnP nums bNames pNames fBoats nB nP day votes isOpen baskets lays recs fneed clos boatO seaO faultO daysO backB sailB plc car bnd bsk dyL rsn pastF pastN logF logN blB blC hsN hsX hsF kpF kpZ tx txl x ⟨hB0, hB1, hB2, hH, hKa, hKs, hB3, hB4⟩) hK hP hD hE hS (hB0 0 _ rfl) rfl rfl rfl hl.1 (Nat.le_of_ble_eq_true rfl) rfl rfl ⟨(Nat.le_of_ble_eq_true rfl), (Nat.le_of_ble_eq_true rfl)⟩ ⟨(Nat.le_of_ble_eq_true rfl), (Nat.le_of_ble_eq_true rfl)⟩ dX11_join_2) hS rfl (fun locs hS => ?_)
  refine g_bifeq (b := (f_X11_isPerson nP x)) (tgt := 22) S dX11_join_5 (by decide) (fun (c1 : (f_X11_isPerson nP x) = false) => ?_) (fun (c1 : (f_X11_isPerson nP x) = true) => ?_)
  · refine lv_iconst (v := (-1)) S.1 S.2.1 dX11_join_22 (by decide) ?_
    have hf : (f_X11_join nB nP day votes isOpen baskets lays recs fneed clos boatO seaO faultO daysO backB sailB plc car bnd bsk dyL rsn pastF pastN logF logN hsN hsX hsF x y) = ((-1), boatO, hsF, hsN, hsX) := cd_f c1
    exact g_iret S hr hlk hP hD hS (by rw [hf] <;> rfl) (by rw [hf]; (try dsimp only); exact ⟨⟨hB0, hB1, hB2, hH, hKa, hKs, hB3, hB4⟩, hF⟩) dX11_join_23
  · refine lv_iload_n S.1 S.2.1 dX11_join_8 rfl (lv_at hl 2 rfl) ?_
    refine lv_bipush (v := (-2)) S.1 S.2.1 dX11_join_9 (by decide) ?_
    refine lv_icmp_eq (tgt := 24) S.1 S.2.1 dX11_join_11 (by decide) (fun (c2 : y = (-2)) => ?_) (fun (c2 : ¬ y = (-2)) => ?_)
    · refine lv_aload_n S.1 S.2.1 dX11_join_24 rfl (lv_at hl 0 rfl) ?_
      refine g_get (v := .ref (α (15))) S hK hP (hB0 0 _ rfl) rfl inX11 4 (by decide) qw362 rfl dX11_join_25 ?_
      refine g_get (v := .ref (α (16))) S hK hP (hB2 6 _ rfl) rfl inX8 0 (by decide) qw183 rfl dX11_join_28 ?_
      refine lv_iload_n S.1 S.2.1 dX11_join_31 rfl (lv_at hl 1 rfl) ?_
      refine g_aftR0 (st1 := [.int (b2i (f_X2_isAtSea seaO x))]) (g_V (As := [.int x]) (rest := []) S mi_X2_isAtSea qw478 (c_X2_isAtSea l D A w α (16) boatO seaO faultO daysO backB sailB x (hB2.sub 7 rfl)) hK hP hD hE hS (hB2 7 _ rfl) rfl rfl rfl hl.1 (Nat.le_of_ble_eq_true rfl) rfl rfl ⟨(Nat.le_of_ble_eq_true rfl), (Nat.le_of_ble_eq_true rfl)⟩ ⟨(Nat.le_of_ble_eq_true rfl), (Nat.le_of_ble_eq_true rfl)⟩ dX11_join_32) hS rfl (fun locs hS => ?_)
      refine g_bifeq (b := (f_X2_isAtSea seaO x)) (tgt := 41) S dX11_join_35 (by decide) (fun (c3 : (f_X2_isAtSea seaO x) = false) => ?_) (fun (c3 : (f_X2_isAtSea seaO x) = true) => ?_)
      · refine lv_aload_n S.1 S.2.1 dX11_join_41 rfl (lv_at hl 0 rfl) ?_
        refine g_get (v := .ref (α (15))) S hK hP (hB0 0 _ rfl) rfl inX11 4 (by decide) qw362 rfl dX11_join_42 ?_
        refine g_get (v := .ref (α (16))) S hK hP (hB2 6 _ rfl) rfl inX8 0 (by decide) qw183 rfl dX11_join_45 ?_
        refine lv_iload_n S.1 S.2.1 dX11_join_48 rfl (lv_at hl 1 rfl) ?_
        refine g_aftR0 (st1 := [.int (f_X2_boatOf boatO x)]) (g_V (As := [.int x]) (rest := []) S mi_X2_boatOf qw473 (c_X2_boatOf l D A w α (16) boatO seaO faultO daysO backB sailB x (hB2.sub 7 rfl)) hK hP hD hE hS (hB2 7 _ rfl) rfl rfl rfl hl.1 (Nat.le_of_ble_eq_true rfl) rfl rfl ⟨(Nat.le_of_ble_eq_true rfl), (Nat.le_of_ble_eq_true rfl)⟩ ⟨(Nat.le_of_ble_eq_true rfl), (Nat.le_of_ble_eq_true rfl)⟩ dX11_join_49) hS rfl (fun locs hS => ?_)
        refine lv_istore_n (lv' := [(3, .int (f_X2_boatOf boatO x)), (0, .ref (α (0))), (1, .int x), (2, .int y)]) S.1 S.2.1 dX11_join_52 rfl hl (by decide) rfl (fun ls hl => ?_)
        refine lv_iload_n S.1 S.2.1 dX11_join_53 rfl (lv_at hl 0 rfl) ?_
        refine lv_iload_n S.1 S.2.1 dX11_join_54 rfl (lv_at hl 3 rfl) ?_
        refine lv_icmp_ne (tgt := 61) S.1 S.2.1 dX11_join_55 (by decide) (fun (c4 : ¬ (f_X2_boatOf boatO x) = y) => ?_) (fun (c4 : (f_X2_boatOf boatO x) = y) => ?_)
        · refine lv_aload_n S.1 S.2.1 dX11_join_61 rfl (lv_at hl 1 rfl) ?_
          refine g_get (v := .ref (α (37))) S hK hP (hB0 0 _ rfl) rfl inX11 5 (by decide) qw363 rfl dX11_join_62 ?_
          refine lv_aload_n S.1 S.2.1 dX11_join_65 rfl (lv_at hl 1 rfl) ?_
          refine g_get (v := .ref (α (15))) S hK hP (hB0 0 _ rfl) rfl inX11 4 (by decide) qw362 rfl dX11_join_66 ?_
          have hNm : (f_X3_remember hsN hsX hsF (day, votes, isOpen, baskets, lays, recs, fneed, clos, boatO, seaO, faultO, daysO, backB, sailB, plc, car, bnd, bsk, dyL, rsn, pastF, pastN, logF, logN)) = (S_X11_join_69 day votes isOpen baskets lays recs fneed clos boatO seaO faultO daysO backB sailB plc car bnd bsk dyL rsn pastF pastN logF logN hsN hsX hsF) := rfl
          have hCon := (c_X3_remember l D A w α 37 hsN hsX hsF 15 (day, votes, isOpen, baskets, lays, recs, fneed, clos, boatO, seaO, faultO, daysO, backB, sailB, plc, car, bnd, bsk, dyL, rsn, pastF, pastN, logF, logN) hH (hB2.sub 6 rfl) (Or.inl (Nat.le_of_ble_eq_true rfl)))
          rw [hNm] at hCon
          refine g_aft0 (st1 := []) (g_V (As := [.ref (α (15))]) (rest := []) (b := α 37) S mi_X3_remember qw397 hCon hK hP hD hE hS (hH.1 0 _ rfl) rfl rfl rfl hl.1 (Nat.le_of_ble_eq_true rfl) rfl rfl ⟨(Nat.le_of_ble_eq_true rfl), (Nat.le_of_ble_eq_true rfl)⟩ ⟨(Nat.le_of_ble_eq_true rfl), (Nat.le_of_ble_eq_true rfl)⟩ dX11_join_69) hS rfl (fun w1 H locs hQ hP hD hS => ?_)
          have hF := Same.call hF 37 hQ.2 (Nat.le_of_ble_eq_true rfl)
          have hH : HP D α w1 37 ((S_X11_join_69 day votes isOpen baskets lays recs fneed clos boatO seaO faultO daysO backB sailB plc car bnd bsk dyL rsn pastF pastN logF logN hsN hsX hsF).1) ((S_X11_join_69 day votes isOpen baskets lays recs fneed clos boatO seaO faultO daysO backB sailB plc car bnd bsk dyL rsn pastF pastN logF logN hsN hsX hsF).2.1) ((S_X11_join_69 day votes isOpen baskets lays recs fneed clos boatO seaO faultO daysO backB sailB plc car bnd bsk dyL rsn pastF pastN logF logN hsN hsX hsF).2.2) := hQ.1
          have hB0 := hB0.other hQ.2 (Or.inl (Nat.le_of_ble_eq_true rfl))
          have hB1 := hB1.other hQ.2 (Or.inl (Nat.le_of_ble_eq_true rfl))
          have hB2 := hB2.other hQ.2 (Or.inl (Nat.le_of_ble_eq_true rfl))
          have hB3 := hB3.other hQ.2 (Or.inr (Nat.le_of_ble_eq_true rfl))
          have hB4 := hB4.other hQ.2 (Or.inr (Nat.le_of_ble_eq_true rfl))
          have hKa := ((hQ.2).2 191 (Or.inr (Nat.le_of_ble_eq_true rfl))).trans hKa
          have hKs := hKs.other hQ.2 (Or.inr (Nat.le_of_ble_eq_true rfl))
          refine lv_aload_n S.1 S.2.1 dX11_join_72 rfl (lv_at hl 1 rfl) ?_
          refine g_get (v := .ref (α (15))) S hK hP (hB0 0 _ rfl) rfl inX11 4 (by decide) qw362 rfl dX11_join_73 ?_
          refine g_get (v := .ref (α (16))) S hK hP (hB2 6 _ rfl) rfl inX8 0 (by decide) qw183 rfl dX11_join_76 ?_
          refine lv_iload_n S.1 S.2.1 dX11_join_79 rfl (lv_at hl 2 rfl) ?_
          refine lv_iload_n S.1 S.2.1 dX11_join_80 rfl (lv_at hl 3 rfl) ?_
          have hNm : (f_X2_assign boatO x y) = (S_X11_join_81 boatO x y) := rfl
          have hCon := (c_X2_assign l D A w1 α (16) boatO seaO faultO daysO backB sailB x y (hB2.sub 7 rfl))
          rw [hNm] at hCon
          refine g_aft0 (st1 := []) (g_V (As := [.int x, .int y]) (rest := []) S mi_X2_assign qw1147 hCon hK hP hD hE hS (hB2 7 _ rfl) rfl rfl rfl hl.1 (Nat.le_of_ble_eq_true rfl) rfl rfl ⟨(Nat.le_of_ble_eq_true rfl), (Nat.le_of_ble_eq_true rfl)⟩ ⟨(Nat.le_of_ble_eq_true rfl), (Nat.le_of_ble_eq_true rfl)⟩ dX11_join_81) hS rfl (fun w2 H locs hQ hP hD hS => ?_)
          have hF := Same.call hF 16 hQ.2 (Nat.le_of_ble_eq_true rfl)
          have hB2 : Blk w2 9 (cVil D α 9 nums bNames pNames fBoats nB nP day votes isOpen baskets lays recs fneed clos (S_X11_join_81 boatO x y) seaO faultO daysO backB sailB plc car bnd bsk dyL rsn pastF pastN logF logN blB blC) := hB2.splice 7 hQ.1 hQ.2 rfl (Nat.le_of_ble_eq_true rfl)
          have hB0 := hB0.other hQ.2 (Or.inl (Nat.le_of_ble_eq_true rfl))
          have hB1 := hB1.other hQ.2 (Or.inl (Nat.le_of_ble_eq_true rfl))
          have hB3 := hB3.other hQ.2 (Or.inr (Nat.le_of_ble_eq_true rfl))
          have hB4 := hB4.other hQ.2 (Or.inr (Nat.le_of_ble_eq_true rfl))
          have hH := hH.other hQ.2 (Or.inr (Nat.le_of_ble_eq_true rfl))
          have hKa := ((hQ.2).2 191 (Or.inr (Nat.le_of_ble_eq_true rfl))).trans hKa
          have hKs := hKs.other hQ.2 (Or.inr (Nat.le_of_ble_eq_true rfl))
          refine lv_iload_n S.1 S.2.1 dX11_join_84 rfl (lv_at hl 0 rfl) ?_
          refine lv_bipush (v := (-2)) S.1 S.2.1 dX11_join_85 (by decide) ?_
          refine lv_icmp_ne (tgt := 94) S.1 S.2.1 dX11_join_87 (by decide) (fun (c5 : ¬ (f_X2_boatOf boatO x) = (-2)) => ?_) (fun (c5 : (f_X2_boatOf boatO x) = (-2)) => ?_)
          · refine lv_iload_n S.1 S.2.1 dX11_join_94 rfl (lv_at hl 0 rfl) ?_
            refine lv_iconst (v := 1) S.1 S.2.1 dX11_join_95 (by decide) ?_
            refine lv_iadd S.1 S.2.1 dX11_join_96 ?_
            have hf : (f_X11_join nB nP day votes isOpen baskets lays recs fneed clos boatO seaO faultO daysO backB sailB plc car bnd bsk dyL rsn pastF pastN logF logN hsN hsX hsF x y) = (((f_X2_boatOf boatO x) + 1), (S_X11_join_81 boatO x y), (S_X11_join_69 day votes isOpen baskets lays recs fneed clos boatO seaO faultO daysO backB sailB plc car bnd bsk dyL rsn pastF pastN logF logN hsN hsX hsF).2.2, (S_X11_join_69 day votes isOpen baskets lays recs fneed clos boatO seaO faultO daysO backB sailB plc car bnd bsk dyL rsn pastF pastN logF logN hsN hsX hsF).1, (S_X11_join_69 day votes isOpen baskets lays recs fneed clos boatO seaO faultO daysO backB sailB plc car bnd bsk dyL rsn pastF pastN logF logN hsN hsX hsF).2.1) := (cd_t c1).trans ((if_pos c2).trans ((cd_f c3).trans ((if_neg c4).trans (if_neg c5))))
            exact g_iret S hr hlk hP hD hS (by rw [hf] <;> rfl) (by rw [hf]; (try dsimp only); exact ⟨⟨hB0, hB1, hB2, hH, hKa, hKs, hB3, hB4⟩, hF⟩) dX11_join_97
          · refine lv_iconst (v := 0) S.1 S.2.1 dX11_join_90 (by decide) ?_
            refine lv_goto (tgt := 97) S.1 S.2.1 dX11_join_91 (by decide) ?_
            have hf : (f_X11_join nB nP day votes isOpen baskets lays recs fneed clos boatO seaO faultO daysO backB sailB plc car bnd bsk dyL rsn pastF pastN logF logN hsN hsX hsF x y) = (0, (S_X11_join_81 boatO x y), (S_X11_join_69 day votes isOpen baskets lays recs fneed clos boatO seaO faultO daysO backB sailB plc car bnd bsk dyL rsn pastF pastN logF logN hsN hsX hsF).2.2, (S_X11_join_69 day votes isOpen baskets lays recs fneed clos boatO seaO faultO daysO backB sailB plc car bnd bsk dyL rsn pastF pastN logF logN hsN hsX hsF).1, (S_X11_join_69 day votes isOpen baskets lays recs fneed clos boatO seaO faultO daysO backB sailB plc car bnd bsk dyL rsn pastF pastN logF logN hsN hsX hsF).2.1) := (cd_t c1).trans ((if_pos c2).trans ((cd_f c3).trans ((if_neg c4).trans (if_pos c5))))
            exact g_iret S hr hlk hP hD hS (by rw [hf] <;> rfl) (by rw [hf]; (try dsimp only); exact ⟨⟨hB0, hB1, hB2, hH, hKa, hKs, hB3, hB4⟩, hF⟩) dX11_join_97
        · refine lv_bipush (v := (-2)) S.1 S.2.1 dX11_join_58 (by decide) ?_
          have hf : (f_X11_join nB nP day votes isOpen baskets lays recs fneed clos boatO seaO faultO daysO backB sailB plc car bnd bsk dyL rsn pastF pastN logF logN hsN hsX hsF x y) = ((-2), boatO, hsF, hsN, hsX) := (cd_t c1).trans ((if_pos c2).trans ((cd_f c3).trans (if_pos c4)))
          exact g_iret S hr hlk hP hD hS (by rw [hf] <;> rfl) (by rw [hf]; (try dsimp only); exact ⟨⟨hB0, hB1, hB2, hH, hKa, hKs, hB3, hB4⟩, hF⟩) dX11_join_60
      · refine lv_bipush (v := (-3)) S.1 S.2.1 dX11_join_38 (by decide) ?_
        have hf : (f_X11_join nB nP day votes isOpen baskets lays recs fneed clos boatO seaO faultO daysO backB sailB plc car bnd bsk dyL rsn pastF pastN logF logN hsN hsX hsF x y) = ((-3), boatO, hsF, hsN, hsX) := (cd_t c1).trans ((if_pos c2).trans (cd_t c3))
        exact g_iret S hr hlk hP hD hS (by rw [hf] <;> rfl) (by rw [hf]; (try dsimp only); exact ⟨⟨hB0, hB1, hB2, hH, hKa, hKs, hB3, hB4⟩, hF⟩) dX11_join_40
    · refine lv_aload_n S.1 S.2.1 dX11_join_14 rfl (lv_at hl 0 rfl) ?_
      refine lv_iload_n S.1 S.2.1 dX11_join_15 rfl (lv_at hl 2 rfl) ?_
      refine g_aftR0 (st1 := [.int (b2i (f_X11_isBoat nB y))]) (g_V (As := [.int y]) (rest := []) S mi_X11_isBoat qw1095 (c_X11_isBoat l D A w α err pk pst pe tp tl dnums dbNames dpNames dfBoats dnB dnP nums bNames pNames fBoats nB nP day votes isOpen baskets lays recs fneed clos boatO seaO faultO daysO backB sailB plc car bnd bsk dyL rsn pastF pastN logF logN blB blC hsN hsX hsF kpF kpZ tx txl y ⟨hB0, hB1, hB2, hH, hKa, hKs, hB3, hB4⟩) hK hP hD hE hS (hB0 0 _ rfl) rfl rfl rfl hl.1 (Nat.le_of_ble_eq_true rfl) rfl rfl ⟨(Nat.le_of_ble_eq_true rfl), (Nat.le_of_ble_eq_true rfl)⟩ ⟨(Nat.le_of_ble_eq_true rfl), (Nat.le_of_ble_eq_true rfl)⟩ dX11_join_16) hS rfl (fun locs hS => ?_)
      refine g_bifne (b := (f_X11_isBoat nB y)) (tgt := 24) S dX11_join_19 (by decide) (fun (c6 : (f_X11_isBoat nB y) = true) => ?_) (fun (c6 : (f_X11_isBoat nB y) = false) => ?_)
      · refine lv_aload_n S.1 S.2.1 dX11_join_24 rfl (lv_at hl 0 rfl) ?_
        refine g_get (v := .ref (α (15))) S hK hP (hB0 0 _ rfl) rfl inX11 4 (by decide) qw362 rfl dX11_join_25 ?_
        refine g_get (v := .ref (α (16))) S hK hP (hB2 6 _ rfl) rfl inX8 0 (by decide) qw183 rfl dX11_join_28 ?_
        refine lv_iload_n S.1 S.2.1 dX11_join_31 rfl (lv_at hl 1 rfl) ?_
        refine g_aftR0 (st1 := [.int (b2i (f_X2_isAtSea seaO x))]) (g_V (As := [.int x]) (rest := []) S mi_X2_isAtSea qw478 (c_X2_isAtSea l D A w α (16) boatO seaO faultO daysO backB sailB x (hB2.sub 7 rfl)) hK hP hD hE hS (hB2 7 _ rfl) rfl rfl rfl hl.1 (Nat.le_of_ble_eq_true rfl) rfl rfl ⟨(Nat.le_of_ble_eq_true rfl), (Nat.le_of_ble_eq_true rfl)⟩ ⟨(Nat.le_of_ble_eq_true rfl), (Nat.le_of_ble_eq_true rfl)⟩ dX11_join_32) hS rfl (fun locs hS => ?_)
        refine g_bifeq (b := (f_X2_isAtSea seaO x)) (tgt := 41) S dX11_join_35 (by decide) (fun (c7 : (f_X2_isAtSea seaO x) = false) => ?_) (fun (c7 : (f_X2_isAtSea seaO x) = true) => ?_)
        · refine lv_aload_n S.1 S.2.1 dX11_join_41 rfl (lv_at hl 0 rfl) ?_
          refine g_get (v := .ref (α (15))) S hK hP (hB0 0 _ rfl) rfl inX11 4 (by decide) qw362 rfl dX11_join_42 ?_
          refine g_get (v := .ref (α (16))) S hK hP (hB2 6 _ rfl) rfl inX8 0 (by decide) qw183 rfl dX11_join_45 ?_
          refine lv_iload_n S.1 S.2.1 dX11_join_48 rfl (lv_at hl 1 rfl) ?_
          refine g_aftR0 (st1 := [.int (f_X2_boatOf boatO x)]) (g_V (As := [.int x]) (rest := []) S mi_X2_boatOf qw473 (c_X2_boatOf l D A w α (16) boatO seaO faultO daysO backB sailB x (hB2.sub 7 rfl)) hK hP hD hE hS (hB2 7 _ rfl) rfl rfl rfl hl.1 (Nat.le_of_ble_eq_true rfl) rfl rfl ⟨(Nat.le_of_ble_eq_true rfl), (Nat.le_of_ble_eq_true rfl)⟩ ⟨(Nat.le_of_ble_eq_true rfl), (Nat.le_of_ble_eq_true rfl)⟩ dX11_join_49) hS rfl (fun locs hS => ?_)
          refine lv_istore_n (lv' := [(3, .int (f_X2_boatOf boatO x)), (0, .ref (α (0))), (1, .int x), (2, .int y)]) S.1 S.2.1 dX11_join_52 rfl hl (by decide) rfl (fun ls hl => ?_)
          refine lv_iload_n S.1 S.2.1 dX11_join_53 rfl (lv_at hl 0 rfl) ?_
          refine lv_iload_n S.1 S.2.1 dX11_join_54 rfl (lv_at hl 3 rfl) ?_
          refine lv_icmp_ne (tgt := 61) S.1 S.2.1 dX11_join_55 (by decide) (fun (c8 : ¬ (f_X2_boatOf boatO x) = y) => ?_) (fun (c8 : (f_X2_boatOf boatO x) = y) => ?_)
          · refine lv_aload_n S.1 S.2.1 dX11_join_61 rfl (lv_at hl 1 rfl) ?_
            refine g_get (v := .ref (α (37))) S hK hP (hB0 0 _ rfl) rfl inX11 5 (by decide) qw363 rfl dX11_join_62 ?_
            refine lv_aload_n S.1 S.2.1 dX11_join_65 rfl (lv_at hl 1 rfl) ?_
            refine g_get (v := .ref (α (15))) S hK hP (hB0 0 _ rfl) rfl inX11 4 (by decide) qw362 rfl dX11_join_66 ?_
            have hNm : (f_X3_remember hsN hsX hsF (day, votes, isOpen, baskets, lays, recs, fneed, clos, boatO, seaO, faultO, daysO, backB, sailB, plc, car, bnd, bsk, dyL, rsn, pastF, pastN, logF, logN)) = (S_X11_join_69a day votes isOpen baskets lays recs fneed clos boatO seaO faultO daysO backB sailB plc car bnd bsk dyL rsn pastF pastN logF logN hsN hsX hsF) := rfl
            have hCon := (c_X3_remember l D A w α 37 hsN hsX hsF 15 (day, votes, isOpen, baskets, lays, recs, fneed, clos, boatO, seaO, faultO, daysO, backB, sailB, plc, car, bnd, bsk, dyL, rsn, pastF, pastN, logF, logN) hH (hB2.sub 6 rfl) (Or.inl (Nat.le_of_ble_eq_true rfl)))
            rw [hNm] at hCon
            refine g_aft0 (st1 := []) (g_V (As := [.ref (α (15))]) (rest := []) (b := α 37) S mi_X3_remember qw397 hCon hK hP hD hE hS (hH.1 0 _ rfl) rfl rfl rfl hl.1 (Nat.le_of_ble_eq_true rfl) rfl rfl ⟨(Nat.le_of_ble_eq_true rfl), (Nat.le_of_ble_eq_true rfl)⟩ ⟨(Nat.le_of_ble_eq_true rfl), (Nat.le_of_ble_eq_true rfl)⟩ dX11_join_69) hS rfl (fun w3 H locs hQ hP hD hS => ?_)
            have hF := Same.call hF 37 hQ.2 (Nat.le_of_ble_eq_true rfl)
            have hH : HP D α w3 37 ((S_X11_join_69a day votes isOpen baskets lays recs fneed clos boatO seaO faultO daysO backB sailB plc car bnd bsk dyL rsn pastF pastN logF logN hsN hsX hsF).1) ((S_X11_join_69a day votes isOpen baskets lays recs fneed clos boatO seaO faultO daysO backB sailB plc car bnd bsk dyL rsn pastF pastN logF logN hsN hsX hsF).2.1) ((S_X11_join_69a day votes isOpen baskets lays recs fneed clos boatO seaO faultO daysO backB sailB plc car bnd bsk dyL rsn pastF pastN logF logN hsN hsX hsF).2.2) := hQ.1
            have hB0 := hB0.other hQ.2 (Or.inl (Nat.le_of_ble_eq_true rfl))
            have hB1 := hB1.other hQ.2 (Or.inl (Nat.le_of_ble_eq_true rfl))
            have hB2 := hB2.other hQ.2 (Or.inl (Nat.le_of_ble_eq_true rfl))
            have hB3 := hB3.other hQ.2 (Or.inr (Nat.le_of_ble_eq_true rfl))
            have hB4 := hB4.other hQ.2 (Or.inr (Nat.le_of_ble_eq_true rfl))
            have hKa := ((hQ.2).2 191 (Or.inr (Nat.le_of_ble_eq_true rfl))).trans hKa
            have hKs := hKs.other hQ.2 (Or.inr (Nat.le_of_ble_eq_true rfl))
            refine lv_aload_n S.1 S.2.1 dX11_join_72 rfl (lv_at hl 1 rfl) ?_
            refine g_get (v := .ref (α (15))) S hK hP (hB0 0 _ rfl) rfl inX11 4 (by decide) qw362 rfl dX11_join_73 ?_
            refine g_get (v := .ref (α (16))) S hK hP (hB2 6 _ rfl) rfl inX8 0 (by decide) qw183 rfl dX11_join_76 ?_
            refine lv_iload_n S.1 S.2.1 dX11_join_79 rfl (lv_at hl 2 rfl) ?_
            refine lv_iload_n S.1 S.2.1 dX11_join_80 rfl (lv_at hl 3 rfl) ?_
            have hNm : (f_X2_assign boatO x y) = (S_X11_join_81a boatO x y) := rfl
            have hCon := (c_X2_assign l D A w3 α (16) boatO seaO faultO daysO backB sailB x y (hB2.sub 7 rfl))
            rw [hNm] at hCon
            refine g_aft0 (st1 := []) (g_V (As := [.int x, .int y]) (rest := []) S mi_X2_assign qw1147 hCon hK hP hD hE hS (hB2 7 _ rfl) rfl rfl rfl hl.1 (Nat.le_of_ble_eq_true rfl) rfl rfl ⟨(Nat.le_of_ble_eq_true rfl), (Nat.le_of_ble_eq_true rfl)⟩ ⟨(Nat.le_of_ble_eq_true rfl), (Nat.le_of_ble_eq_true rfl)⟩ dX11_join_81) hS rfl (fun w4 H locs hQ hP hD hS => ?_)
            have hF := Same.call hF 16 hQ.2 (Nat.le_of_ble_eq_true rfl)
            have hB2 : Blk w4 9 (cVil D α 9 nums bNames pNames fBoats nB nP day votes isOpen baskets lays recs fneed clos (S_X11_join_81a boatO x y) seaO faultO daysO backB sailB plc car bnd bsk dyL rsn pastF pastN logF logN blB blC) := hB2.splice 7 hQ.1 hQ.2 rfl (Nat.le_of_ble_eq_true rfl)
            have hB0 := hB0.other hQ.2 (Or.inl (Nat.le_of_ble_eq_true rfl))
            have hB1 := hB1.other hQ.2 (Or.inl (Nat.le_of_ble_eq_true rfl))
            have hB3 := hB3.other hQ.2 (Or.inr (Nat.le_of_ble_eq_true rfl))
            have hB4 := hB4.other hQ.2 (Or.inr (Nat.le_of_ble_eq_true rfl))
            have hH := hH.other hQ.2 (Or.inr (Nat.le_of_ble_eq_true rfl))
            have hKa := ((hQ.2).2 191 (Or.inr (Nat.le_of_ble_eq_true rfl))).trans hKa
            have hKs := hKs.other hQ.2 (Or.inr (Nat.le_of_ble_eq_true rfl))
            refine lv_iload_n S.1 S.2.1 dX11_join_84 rfl (lv_at hl 0 rfl) ?_
            refine lv_bipush (v := (-2)) S.1 S.2.1 dX11_join_85 (by decide) ?_
            refine lv_icmp_ne (tgt := 94) S.1 S.2.1 dX11_join_87 (by decide) (fun (c9 : ¬ (f_X2_boatOf boatO x) = (-2)) => ?_) (fun (c9 : (f_X2_boatOf boatO x) = (-2)) => ?_)
            · refine lv_iload_n S.1 S.2.1 dX11_join_94 rfl (lv_at hl 0 rfl) ?_
              refine lv_iconst (v := 1) S.1 S.2.1 dX11_join_95 (by decide) ?_
              refine lv_iadd S.1 S.2.1 dX11_join_96 ?_
              have hf : (f_X11_join nB nP day votes isOpen baskets lays recs fneed clos boatO seaO faultO daysO backB sailB plc car bnd bsk dyL rsn pastF pastN logF logN hsN hsX hsF x y) = (((f_X2_boatOf boatO x) + 1), (S_X11_join_81a boatO x y), (S_X11_join_69a day votes isOpen baskets lays recs fneed clos boatO seaO faultO daysO backB sailB plc car bnd bsk dyL rsn pastF pastN logF logN hsN hsX hsF).2.2, (S_X11_join_69a day votes isOpen baskets lays recs fneed clos boatO seaO faultO daysO backB sailB plc car bnd bsk dyL rsn pastF pastN logF logN hsN hsX hsF).1, (S_X11_join_69a day votes isOpen baskets lays recs fneed clos boatO seaO faultO daysO backB sailB plc car bnd bsk dyL rsn pastF pastN logF logN hsN hsX hsF).2.1) := (cd_t c1).trans ((if_neg c2).trans ((cd_t c6).trans ((cd_f c7).trans ((if_neg c8).trans (if_neg c9)))))
              exact g_iret S hr hlk hP hD hS (by rw [hf] <;> rfl) (by rw [hf]; (try dsimp only); exact ⟨⟨hB0, hB1, hB2, hH, hKa, hKs, hB3, hB4⟩, hF⟩) dX11_join_97
            · refine lv_iconst (v := 0) S.1 S.2.1 dX11_join_90 (by decide) ?_
              refine lv_goto (tgt := 97) S.1 S.2.1 dX11_join_91 (by decide) ?_
              have hf : (f_X11_join nB nP day votes isOpen baskets lays recs fneed clos boatO seaO faultO daysO backB sailB plc car bnd bsk dyL rsn pastF pastN logF logN hsN hsX hsF x y) = (0, (S_X11_join_81a boatO x y), (S_X11_join_69a day votes isOpen baskets lays recs fneed clos boatO seaO faultO daysO backB sailB plc car bnd bsk dyL rsn pastF pastN logF logN hsN hsX hsF).2.2, (S_X11_join_69a day votes isOpen baskets lays recs fneed clos boatO seaO faultO daysO backB sailB plc car bnd bsk dyL rsn pastF pastN logF logN hsN hsX hsF).1, (S_X11_join_69a day votes isOpen baskets lays recs fneed clos boatO seaO faultO daysO backB sailB plc car bnd bsk dyL rsn pastF pastN logF logN hsN hsX hsF).2.1) := (cd_t c1).trans ((if_neg c2).trans ((cd_t c6).trans ((cd_f c7).trans ((if_neg c8).trans (if_pos c9)))))
              exact g_iret S hr hlk hP hD hS (by rw [hf] <;> rfl) (by rw [hf]; (try dsimp only); exact ⟨⟨hB0, hB1, hB2, hH, hKa, hKs, hB3, hB4⟩, hF⟩) dX11_join_97
          · refine lv_bipush (v := (-2)) S.1 S.2.1 dX11_join_58 (by decide) ?_
            have hf : (f_X11_join nB nP day votes isOpen baskets lays recs fneed clos boatO seaO faultO daysO backB sailB plc car bnd bsk dyL rsn pastF pastN logF logN hsN hsX hsF x y) = ((-2), boatO, hsF, hsN, hsX) := (cd_t c1).trans ((if_neg c2).trans ((cd_t c6).trans ((cd_f c7).trans (if_pos c8))))
            exact g_iret S hr hlk hP hD hS (by rw [hf] <;> rfl) (by rw [hf]; (try dsimp only); exact ⟨⟨hB0, hB1, hB2, hH, hKa, hKs, hB3, hB4⟩, hF⟩) dX11_join_60
        · refine lv_bipush (v := (-3)) S.1 S.2.1 dX11_join_38 (by decide) ?_
          have hf : (f_X11_join nB nP day votes isOpen baskets lays recs fneed clos boatO seaO faultO daysO backB sailB plc car bnd bsk dyL rsn pastF pastN logF logN hsN hsX hsF x y) = ((-3), boatO, hsF, hsN, hsX) := (cd_t c1).trans ((if_neg c2).trans ((cd_t c6).trans (cd_t c7)))
          exact g_iret S hr hlk hP hD hS (by rw [hf] <;> rfl) (by rw [hf]; (try dsimp only); exact ⟨⟨hB0, hB1, hB2, hH, hKa, hKs, hB3, hB4⟩, hF⟩) dX11_join_40
      · refine lv_iconst (v := (-1)) S.1 S.2.1 dX11_join_22 (by decide) ?_
        have hf : (f_X11_join nB nP day votes isOpen baskets lays recs fneed clos boatO seaO faultO daysO backB sailB plc car bnd bsk dyL rsn pastF pastN logF logN hsN hsX hsF x y) = ((-1), boatO, hsF, hsN, hsX) := (cd_t c1).trans ((if_neg c2).trans (cd_f c6))
        exact g_iret S hr hlk hP hD hS (by rw [hf] <;> rfl) (by rw [hf]; (try dsimp only); exact ⟨⟨hB0, hB1, hB2, hH, hKa, hKs, hB3, hB4⟩, hF⟩) dX11_join_23
