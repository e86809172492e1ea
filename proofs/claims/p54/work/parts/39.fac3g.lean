noncomputable def S_X11_takeBack_93 (day : Int32) (votes : Int32) (isOpen : Int32) (baskets : Int32) (lays : Int32) (recs : Int32) (fneed : Int32) (clos : Int32) (boatO : Nat → Int32) (seaO : Nat → Int32) (faultO : Nat → Int32) (daysO : Nat → Int32) (backB : Nat → Int32) (sailB : Nat → Int32) (plc : Nat → Int32) (car : Nat → Int32) (bnd : Nat → Int32) (bsk : Nat → Int32) (dyL : Nat → Int32) (rsn : Nat → Int32) (pastF : Nat → Int32) (pastN : Int32) (logF : Nat → Int32) (logN : Int32) (hsN : Int32) (hsX : Int32) (hsF : Nat → StT) : Int32 × Int32 × (Nat → StT) := (f_X3_remember hsN hsX hsF (day, votes, isOpen, baskets, lays, recs, fneed, clos, boatO, seaO, faultO, daysO, backB, sailB, plc, car, bnd, bsk, dyL, rsn, pastF, pastN, logF, logN))
noncomputable def S_X11_takeBack_104 (plc : Nat → Int32) (car : Nat → Int32) (bnd : Nat → Int32) (x : Int32) : (Nat → Int32) × (Nat → Int32) × (Nat → Int32) := (f_X9_handBack plc car bnd x)
noncomputable def f_X11_takeBack (nP : Int32) (day : Int32) (votes : Int32) (isOpen : Int32) (baskets : Int32) (lays : Int32) (recs : Int32) (fneed : Int32) (clos : Int32) (boatO : Nat → Int32) (seaO : Nat → Int32) (faultO : Nat → Int32) (daysO : Nat → Int32) (backB : Nat → Int32) (sailB : Nat → Int32) (plc : Nat → Int32) (car : Nat → Int32) (bnd : Nat → Int32) (bsk : Nat → Int32) (dyL : Nat → Int32) (rsn : Nat → Int32) (pastF : Nat → Int32) (pastN : Int32) (logF : Nat → Int32) (logN : Int32) (hsN : Int32) (hsX : Int32) (hsF : Nat → StT) (x : Int32) : Int32 × (Nat → Int32) × (Nat → Int32) × (Nat → StT) × Int32 × Int32 × (Nat → Int32) := (bif (f_X11_isPerson nP x) then (if (f_X9_placeOf plc x) = 1 then (bif (f_X2_isAtSea seaO x) then ((-3), bnd, car, hsF, hsN, hsX, plc) else (bif (f_X2_isAtSea seaO (f_X9_carrierOf car x)) then ((-3), bnd, car, hsF, hsN, hsX, plc) else ((f_X9_carrierOf car x), (S_X11_takeBack_104 plc car bnd x).1, (S_X11_takeBack_104 plc car bnd x).2.1, (S_X11_takeBack_93 day votes isOpen baskets lays recs fneed clos boatO seaO faultO daysO backB sailB plc car bnd bsk dyL rsn pastF pastN logF logN hsN hsX hsF).2.2, (S_X11_takeBack_93 day votes isOpen baskets lays recs fneed clos boatO seaO faultO daysO backB sailB plc car bnd bsk dyL rsn pastF pastN logF logN hsN hsX hsF).1, (S_X11_takeBack_93 day votes isOpen baskets lays recs fneed clos boatO seaO faultO daysO backB sailB plc car bnd bsk dyL rsn pastF pastN logF logN hsN hsX hsF).2.1, (S_X11_takeBack_104 plc car bnd x).2.2))) else (bif (f_X2_isAtSea seaO x) then ((-3), bnd, car, hsF, hsN, hsX, plc) else ((-4), bnd, car, hsF, hsN, hsX, plc))) else ((-1), bnd, car, hsF, hsN, hsX, plc))
set_option maxHeartbeats 4000000 in
set_option maxRecDepth 100000 in
theorem c_X11_takeBack (l : Launch) (D : va_G) (A : Nat → Prop) (w : va_W) (α : Nat → Nat) (err : Int32) (pk : Int32) (pst : Int32) (pe : Int32) (tp : Nat → Int32) (tl : Int32) (dnums : Nat → Int32) (dbNames : Nat → Int32) (dpNames : Nat → Int32) (dfBoats : Nat → Int32) (dnB : Int32) (dnP : Int32) (nums : Nat → Int32) (bNames : Nat → Int32) (pNames : Nat → Int32) (fBoats : Nat → Int32) (nB : Int32) (nP : Int32) (day : Int32) (votes : Int32) (isOpen : Int32) (baskets : Int32) (lays : Int32) (recs : Int32) (fneed : Int32) (clos : Int32) (boatO : Nat → Int32) (seaO : Nat → Int32) (faultO : Nat → Int32) (daysO : Nat → Int32) (backB : Nat → Int32) (sailB : Nat → Int32) (plc : Nat → Int32) (car : Nat → Int32) (bnd : Nat → Int32) (bsk : Nat → Int32) (dyL : Nat → Int32) (rsn : Nat → Int32) (pastF : Nat → Int32) (pastN : Int32) (logF : Nat → Int32) (logN : Int32) (blB : Nat → Int32) (blC : Nat → Int32) (hsN : Int32) (hsX : Int32) (hsF : Nat → StT) (kpF : Nat → StT) (kpZ : Nat → Int32) (tx : Nat → Int32) (txl : Int32) (x : Int32) (hV : SVW D α w err pk pst pe tp tl dnums dbNames dpNames dfBoats dnB dnP nums bNames pNames fBoats nB nP day votes isOpen baskets lays recs fneed clos boatO seaO faultO daysO backB sailB plc car bnd bsk dyL rsn pastF pastN logF logN blB blC hsN hsX hsF kpF kpZ tx txl) : Met l yX11_takeBack (ws_ yX11_takeBack cX11_takeBack 4 (some .int)) ({ frames := 5, cells := 0, slots := 0, locals := 124 }) (gPre D A [.ref (α (0)), .int x] w) (gQ D A (some (.int (f_X11_takeBack nP day votes isOpen baskets lays recs fneed clos boatO seaO faultO daysO backB sailB plc car bnd bsk dyL rsn pastF pastN logF logN hsN hsX hsF x).1)) (fun w1 => SVW D α w1 err pk pst pe tp tl dnums dbNames dpNames dfBoats dnB dnP nums bNames pNames fBoats nB nP day votes isOpen baskets lays recs fneed clos boatO seaO faultO daysO backB sailB ((f_X11_takeBack nP day votes isOpen baskets lays recs fneed clos boatO seaO faultO daysO backB sailB plc car bnd bsk dyL rsn pastF pastN logF logN hsN hsX hsF x).2.2.2.2.2.2) ((f_X11_takeBack nP day votes isOpen baskets lays recs fneed clos boatO seaO faultO daysO backB sailB plc car bnd bsk dyL rsn pastF pastN logF logN hsN hsX hsF x).2.2.1) ((f_X11_takeBack nP day votes isOpen baskets lays recs fneed clos boatO seaO faultO daysO backB sailB plc car bnd bsk dyL rsn pastF pastN logF logN hsN hsX hsF x).2.1) bsk dyL rsn pastF pastN logF logN blB blC ((f_X11_takeBack nP day votes isOpen baskets lays recs fneed clos boatO seaO faultO daysO backB sailB plc car bnd bsk dyL rsn pastF pastN logF logN hsN hsX hsF x).2.2.2.2.1) ((f_X11_takeBack nP day votes isOpen baskets lays recs fneed clos boatO seaO faultO daysO backB sailB plc car bnd bsk dyL rsn pastF pastN logF logN hsN hsX hsF x).2.2.2.2.2.1) ((f_X11_takeBack nP day votes isOpen baskets lays recs fneed clos boatO seaO faultO daysO backB sailB plc car bnd bsk dyL rsn pastF pastN logF logN hsN hsX hsF x).2.2.2.1) kpF kpZ tx txl ∧ Same w w1 0 234)) 0 0 A := by
  refine g_met [(0, .ref (α (0))), (1, .int x)] (plainFor_of_name (by decide)) (Nat.le_of_ble_eq_true rfl) rfl (fun pg en s mi ar below me co ls S hK hP hD hE hS hr hlk hnm hl => ?_)
  obtain ⟨hB0, hB1, hB2, hH, hKa, hKs, hB3, hB4⟩ := hV
  have hF : Same w w 0 234 := Same.rf
  refine lv_aload_n S.1 S.2.1 dX11_takeBack_0 rfl (lv_at hl 0 rfl) ?_
  refine lv_iload_n S.1 S.2.1 dX11_takeBack_1 rfl (lv_at hl 1 rfl) ?_
  refine g_aftR0 (st1 := [.int (b2i (f_X11_isPerson nP x))]) (g_V (As := [.int x]) (rest := []) S mi_X11_isPerson qw467 (c_X11_isPerson l D A w α err pk pst pe tp tl dnums dbNames dpNames dfBoats dnB dnP nums bNames pNames fBoats nB nP day votes isOpen baskets lays recs fneed clos boatO seaO faultO daysO backB sailB plc car bnd bsk dyL rsn pastF pastN logF logN blB blC hsN hsX hsF kpF kpZ tx txl x ⟨hB0, hB1, hB2, hH, hKa, hKs, hB3, hB4⟩) hK hP hD hE hS (hB0 0 _ rfl) rfl rfl rfl hl.1 (Nat.le_of_ble_eq_true rfl) rfl rfl ⟨(Nat.le_of_ble_eq_true rfl), (Nat.le_of_ble_eq_true rfl)⟩ ⟨(Nat.le_of_ble_eq_true rfl), (Nat.le_of_ble_eq_true rfl)⟩ dX11_takeBack_2) hS rfl (fun locs hS => ?_)
  refine g_bifne (b := (f_X11_isPerson nP x)) (tgt := 10) S dX11_takeBack_5 (by decide) (fun (c1 : (f_X11_isPerson nP x) = true) => ?_) (fun (c1 : (f_X11_isPerson nP x) = false) => ?_)
  · refine lv_aload_n S.1 S.2.1 dX11_takeBack_10 rfl (lv_at hl 0 rfl) ?_
    refine g_get (v := .ref (α (15))) S hK hP (hB0 0 _ rfl) rfl inX11 4 (by decide) qw362 rfl dX11_takeBack_11 ?_
    refine g_get (v := .ref (α (23))) S hK hP (hB2 6 _ rfl) rfl inX8 1 (by decide) qw187 rfl dX11_takeBack_14 ?_
    refine lv_iload_n S.1 S.2.1 dX11_takeBack_17 rfl (lv_at hl 1 rfl) ?_
    refine g_aftR0 (st1 := [.int (f_X9_placeOf plc x)]) (g_V (As := [.int x]) (rest := []) S mi_X9_placeOf qw1156 (c_X9_placeOf l D A w α (23) plc car bnd bsk dyL rsn x (hB2.sub 14 rfl)) hK hP hD hE hS (hB2 14 _ rfl) rfl rfl rfl hl.1 (Nat.le_of_ble_eq_true rfl) rfl rfl ⟨(Nat.le_of_ble_eq_true rfl), (Nat.le_of_ble_eq_true rfl)⟩ ⟨(Nat.le_of_ble_eq_true rfl), (Nat.le_of_ble_eq_true rfl)⟩ dX11_takeBack_18) hS rfl (fun locs hS => ?_)
    refine lv_iconst (v := 1) S.1 S.2.1 dX11_takeBack_21 (by decide) ?_
    refine lv_icmp_ne (tgt := 29) S.1 S.2.1 dX11_takeBack_22 (by decide) (fun (c2 : ¬ (f_X9_placeOf plc x) = 1) => ?_) (fun (c2 : (f_X9_placeOf plc x) = 1) => ?_)
    · refine lv_iconst (v := 0) S.1 S.2.1 dX11_takeBack_29 (by decide) ?_
      refine lv_istore_n (lv' := [(2, .int 0), (0, .ref (α (0))), (1, .int x)]) S.1 S.2.1 dX11_takeBack_30 rfl hl (by decide) rfl (fun ls hl => ?_)
      refine lv_aload_n S.1 S.2.1 dX11_takeBack_31 rfl (lv_at hl 1 rfl) ?_
      refine g_get (v := .ref (α (15))) S hK hP (hB0 0 _ rfl) rfl inX11 4 (by decide) qw362 rfl dX11_takeBack_32 ?_
      refine g_get (v := .ref (α (23))) S hK hP (hB2 6 _ rfl) rfl inX8 1 (by decide) qw187 rfl dX11_takeBack_35 ?_
      refine lv_iload_n S.1 S.2.1 dX11_takeBack_38 rfl (lv_at hl 2 rfl) ?_
      refine g_aftR0 (st1 := [.int (f_X9_carrierOf car x)]) (g_V (As := [.int x]) (rest := []) S mi_X9_carrierOf qw1165 (c_X9_carrierOf l D A w α (23) plc car bnd bsk dyL rsn x (hB2.sub 14 rfl)) hK hP hD hE hS (hB2 14 _ rfl) rfl rfl rfl hl.1 (Nat.le_of_ble_eq_true rfl) rfl rfl ⟨(Nat.le_of_ble_eq_true rfl), (Nat.le_of_ble_eq_true rfl)⟩ ⟨(Nat.le_of_ble_eq_true rfl), (Nat.le_of_ble_eq_true rfl)⟩ dX11_takeBack_39) hS rfl (fun locs hS => ?_)
      refine lv_istore_n (lv' := [(3, .int (f_X9_carrierOf car x)), (2, .int 0), (0, .ref (α (0))), (1, .int x)]) S.1 S.2.1 dX11_takeBack_42 rfl hl (by decide) rfl (fun ls hl => ?_)
      refine lv_aload_n S.1 S.2.1 dX11_takeBack_43 rfl (lv_at hl 2 rfl) ?_
      refine g_get (v := .ref (α (15))) S hK hP (hB0 0 _ rfl) rfl inX11 4 (by decide) qw362 rfl dX11_takeBack_44 ?_
      refine g_get (v := .ref (α (16))) S hK hP (hB2 6 _ rfl) rfl inX8 0 (by decide) qw183 rfl dX11_takeBack_47 ?_
      refine lv_iload_n S.1 S.2.1 dX11_takeBack_50 rfl (lv_at hl 3 rfl) ?_
      refine g_aftR0 (st1 := [.int (b2i (f_X2_isAtSea seaO x))]) (g_V (As := [.int x]) (rest := []) S mi_X2_isAtSea qw478 (c_X2_isAtSea l D A w α (16) boatO seaO faultO daysO backB sailB x (hB2.sub 7 rfl)) hK hP hD hE hS (hB2 7 _ rfl) rfl rfl rfl hl.1 (Nat.le_of_ble_eq_true rfl) rfl rfl ⟨(Nat.le_of_ble_eq_true rfl), (Nat.le_of_ble_eq_true rfl)⟩ ⟨(Nat.le_of_ble_eq_true rfl), (Nat.le_of_ble_eq_true rfl)⟩ dX11_takeBack_51) hS rfl (fun locs hS => ?_)
      refine g_bifne (b := (f_X2_isAtSea seaO x)) (tgt := 75) S dX11_takeBack_54 (by decide) (fun (c3 : (f_X2_isAtSea seaO x) = true) => ?_) (fun (c3 : (f_X2_isAtSea seaO x) = false) => ?_)
      · refine lv_bipush (v := (-3)) S.1 S.2.1 dX11_takeBack_75 (by decide) ?_
        have hf : (f_X11_takeBack nP day votes isOpen baskets lays recs fneed clos boatO seaO faultO daysO backB sailB plc car bnd bsk dyL rsn pastF pastN logF logN hsN hsX hsF x) = ((-3), bnd, car, hsF, hsN, hsX, plc) := (cd_t c1).trans ((if_neg c2).trans (cd_t c3))
        exact g_iret S hr hlk hP hD hS (by rw [hf] <;> rfl) (by rw [hf]; (try dsimp only); exact ⟨⟨hB0, hB1, hB2, hH, hKa, hKs, hB3, hB4⟩, hF⟩) dX11_takeBack_77
      · refine lv_iload_n S.1 S.2.1 dX11_takeBack_57 rfl (lv_at hl 1 rfl) ?_
        refine lv_if_eq (tgt := 78) S.1 S.2.1 dX11_takeBack_58 (by decide) (fun _ => ?_) (fun c4 => absurd c4 (by decide))
        refine lv_iload_n S.1 S.2.1 dX11_takeBack_78 rfl (lv_at hl 1 rfl) ?_
        refine lv_if_ne (tgt := 85) S.1 S.2.1 dX11_takeBack_79 (by decide) (fun c5 => absurd c5 (by decide)) (fun _ => ?_)
        refine lv_bipush (v := (-4)) S.1 S.2.1 dX11_takeBack_82 (by decide) ?_
        have hf : (f_X11_takeBack nP day votes isOpen baskets lays recs fneed clos boatO seaO faultO daysO backB sailB plc car bnd bsk dyL rsn pastF pastN logF logN hsN hsX hsF x) = ((-4), bnd, car, hsF, hsN, hsX, plc) := (cd_t c1).trans ((if_neg c2).trans (cd_f c3))
        exact g_iret S hr hlk hP hD hS (by rw [hf] <;> rfl) (by rw [hf]; (try dsimp only); exact ⟨⟨hB0, hB1, hB2, hH, hKa, hKs, hB3, hB4⟩, hF⟩) dX11_takeBack_84
    · refine lv_iconst (v := 1) S.1 S.2.1 dX11_takeBack_25 (by decide) ?_
      refine lv_goto (tgt := 30) S.1 S.2.1 dX11_takeBack_26 (by decide) ?_
      refine lv_istore_n (lv' := [(2, .int 1), (0, .ref (α (0))), (1, .int x)]) S.1 S.2.1 dX11_takeBack_30 rfl hl (by decide) rfl (fun ls hl => ?_)
      refine lv_aload_n S.1 S.2.1 dX11_takeBack_31 rfl (lv_at hl 1 rfl) ?_
      refine g_get (v := .ref (α (15))) S hK hP (hB0 0 _ rfl) rfl inX11 4 (by decide) qw362 rfl dX11_takeBack_32 ?_
      refine g_get (v := .ref (α (23))) S hK hP (hB2 6 _ rfl) rfl inX8 1 (by decide) qw187 rfl dX11_takeBack_35 ?_
      refine lv_iload_n S.1 S.2.1 dX11_takeBack_38 rfl (lv_at hl 2 rfl) ?_
      refine g_aftR0 (st1 := [.int (f_X9_carrierOf car x)]) (g_V (As := [.int x]) (rest := []) S mi_X9_carrierOf qw1165 (c_X9_carrierOf l D A w α (23) plc car bnd bsk dyL rsn x (hB2.sub 14 rfl)) hK hP hD hE hS (hB2 14 _ rfl) rfl rfl rfl hl.1 (Nat.le_of_ble_eq_true rfl) rfl rfl ⟨(Nat.le_of_ble_eq_true rfl), (Nat.le_of_ble_eq_true rfl)⟩ ⟨(Nat.le_of_ble_eq_true rfl), (Nat.le_of_ble_eq_true rfl)⟩ dX11_takeBack_39) hS rfl (fun locs hS => ?_)
      refine lv_istore_n (lv' := [(3, .int (f_X9_carrierOf car x)), (2, .int 1), (0, .ref (α (0))), (1, .int x)]) S.1 S.2.1 dX11_takeBack_42 rfl hl (by decide) rfl (fun ls hl => ?_)
      refine lv_aload_n S.1 S.2.1 dX11_takeBack_43 rfl (lv_at hl 2 rfl) ?_
      refine g_get (v := .ref (α (15))) S hK hP (hB0 0 _ rfl) rfl inX11 4 (by decide) qw362 rfl dX11_takeBack_44 ?_
      refine g_get (v := .ref (α (16))) S hK hP (hB2 6 _ rfl) rfl inX8 0 (by decide) qw183 rfl dX11_takeBack_47 ?_
      refine lv_iload_n S.1 S.2.1 dX11_takeBack_50 rfl (lv_at hl 3 rfl) ?_
      refine g_aftR0 (st1 := [.int (b2i (f_X2_isAtSea seaO x))]) (g_V (As := [.int x]) (rest := []) S mi_X2_isAtSea qw478 (c_X2_isAtSea l D A w α (16) boatO seaO faultO daysO backB sailB x (hB2.sub 7 rfl)) hK hP hD hE hS (hB2 7 _ rfl) rfl rfl rfl hl.1 (Nat.le_of_ble_eq_true rfl) rfl rfl ⟨(Nat.le_of_ble_eq_true rfl), (Nat.le_of_ble_eq_true rfl)⟩ ⟨(Nat.le_of_ble_eq_true rfl), (Nat.le_of_ble_eq_true rfl)⟩ dX11_takeBack_51) hS rfl (fun locs hS => ?_)
      refine g_bifne (b := (f_X2_isAtSea seaO x)) (tgt := 75) S dX11_takeBack_54 (by decide) (fun (c6 : (f_X2_isAtSea seaO x) = true) => ?_) (fun (c6 : (f_X2_isAtSea seaO x) = false) => ?_)
      · refine lv_bipush (v := (-3)) S.1 S.2.1 dX11_takeBack_75 (by decide) ?_
        have hf : (f_X11_takeBack nP day votes isOpen baskets lays recs fneed clos boatO seaO faultO daysO backB sailB plc car bnd bsk dyL rsn pastF pastN logF logN hsN hsX hsF x) = ((-3), bnd, car, hsF, hsN, hsX, plc) := (cd_t c1).trans ((if_pos c2).trans (cd_t c6))
        exact g_iret S hr hlk hP hD hS (by rw [hf] <;> rfl) (by rw [hf]; (try dsimp only); exact ⟨⟨hB0, hB1, hB2, hH, hKa, hKs, hB3, hB4⟩, hF⟩) dX11_takeBack_77
      · refine lv_iload_n S.1 S.2.1 dX11_takeBack_57 rfl (lv_at hl 1 rfl) ?_
        refine lv_if_eq (tgt := 78) S.1 S.2.1 dX11_takeBack_58 (by decide) (fun c7 => absurd c7 (by decide)) (fun _ => ?_)
        refine lv_aload_n S.1 S.2.1 dX11_takeBack_61 rfl (lv_at hl 2 rfl) ?_
        refine g_get (v := .ref (α (15))) S hK hP (hB0 0 _ rfl) rfl inX11 4 (by decide) qw362 rfl dX11_takeBack_62 ?_
        refine g_get (v := .ref (α (16))) S hK hP (hB2 6 _ rfl) rfl inX8 0 (by decide) qw183 rfl dX11_takeBack_65 ?_
        refine lv_iload_n S.1 S.2.1 dX11_takeBack_68 rfl (lv_at hl 0 rfl) ?_
        refine g_aftR0 (st1 := [.int (b2i (f_X2_isAtSea seaO (f_X9_carrierOf car x)))]) (g_V (As := [.int (f_X9_carrierOf car x)]) (rest := []) S mi_X2_isAtSea qw478 (c_X2_isAtSea l D A w α (16) boatO seaO faultO daysO backB sailB (f_X9_carrierOf car x) (hB2.sub 7 rfl)) hK hP hD hE hS (hB2 7 _ rfl) rfl rfl rfl hl.1 (Nat.le_of_ble_eq_true rfl) rfl rfl ⟨(Nat.le_of_ble_eq_true rfl), (Nat.le_of_ble_eq_true rfl)⟩ ⟨(Nat.le_of_ble_eq_true rfl), (Nat.le_of_ble_eq_true rfl)⟩ dX11_takeBack_69) hS rfl (fun locs hS => ?_)
        refine g_bifeq (b := (f_X2_isAtSea seaO (f_X9_carrierOf car x))) (tgt := 78) S dX11_takeBack_72 (by decide) (fun (c8 : (f_X2_isAtSea seaO (f_X9_carrierOf car x)) = false) => ?_) (fun (c8 : (f_X2_isAtSea seaO (f_X9_carrierOf car x)) = true) => ?_)
        · refine lv_iload_n S.1 S.2.1 dX11_takeBack_78 rfl (lv_at hl 1 rfl) ?_
          refine lv_if_ne (tgt := 85) S.1 S.2.1 dX11_takeBack_79 (by decide) (fun _ => ?_) (fun c9 => absurd c9 (by decide))
          refine lv_aload_n S.1 S.2.1 dX11_takeBack_85 rfl (lv_at hl 2 rfl) ?_
          refine g_get (v := .ref (α (37))) S hK hP (hB0 0 _ rfl) rfl inX11 5 (by decide) qw363 rfl dX11_takeBack_86 ?_
          refine lv_aload_n S.1 S.2.1 dX11_takeBack_89 rfl (lv_at hl 2 rfl) ?_
          refine g_get (v := .ref (α (15))) S hK hP (hB0 0 _ rfl) rfl inX11 4 (by decide) qw362 rfl dX11_takeBack_90 ?_
          have hNm : (f_X3_remember hsN hsX hsF (day, votes, isOpen, baskets, lays, recs, fneed, clos, boatO, seaO, faultO, daysO, backB, sailB, plc, car, bnd, bsk, dyL, rsn, pastF, pastN, logF, logN)) = (S_X11_takeBack_93 day votes isOpen baskets lays recs fneed clos boatO seaO faultO daysO backB sailB plc car bnd bsk dyL rsn pastF pastN logF logN hsN hsX hsF) := rfl
          have hCon := (c_X3_remember l D A w α 37 hsN hsX hsF 15 (day, votes, isOpen, baskets, lays, recs, fneed, clos, boatO, seaO, faultO, daysO, backB, sailB, plc, car, bnd, bsk, dyL, rsn, pastF, pastN, logF, logN) hH (hB2.sub 6 rfl) (Or.inl (Nat.le_of_ble_eq_true rfl)))
          rw [hNm] at hCon
          refine g_aft0 (st1 := []) (g_V (As := [.ref (α (15))]) (rest := []) (b := α 37) S mi_X3_remember qw397 hCon hK hP hD hE hS (hH.1 0 _ rfl) rfl rfl rfl hl.1 (Nat.le_of_ble_eq_true rfl) rfl rfl ⟨(Nat.le_of_ble_eq_true rfl), (Nat.le_of_ble_eq_true rfl)⟩ ⟨(Nat.le_of_ble_eq_true rfl), (Nat.le_of_ble_eq_true rfl)⟩ dX11_takeBack_93) hS rfl (fun w1 H locs hQ hP hD hS => ?_)
          have hF := Same.call hF 37 hQ.2 (Nat.le_of_ble_eq_true rfl)
          have hH : HP D α w1 37 ((S_X11_takeBack_93 day votes isOpen baskets lays recs fneed clos boatO seaO faultO daysO backB sailB plc car bnd bsk dyL rsn pastF pastN logF logN hsN hsX hsF).1) ((S_X11_takeBack_93 day votes isOpen baskets lays recs fneed clos boatO seaO faultO daysO backB sailB plc car bnd bsk dyL rsn pastF pastN logF logN hsN hsX hsF).2.1) ((S_X11_takeBack_93 day votes isOpen baskets lays recs fneed clos boatO seaO faultO daysO backB sailB plc car bnd bsk dyL rsn pastF pastN logF logN hsN hsX hsF).2.2) := hQ.1
          have hB0 := hB0.other hQ.2 (Or.inl (Nat.le_of_ble_eq_true rfl))
          have hB1 := hB1.other hQ.2 (Or.inl (Nat.le_of_ble_eq_true rfl))
          have hB2 := hB2.other hQ.2 (Or.inl (Nat.le_of_ble_eq_true rfl))
          have hB3 := hB3.other hQ.2 (Or.inr (Nat.le_of_ble_eq_true rfl))
          have hB4 := hB4.other hQ.2 (Or.inr (Nat.le_of_ble_eq_true rfl))
          have hKa := ((hQ.2).2 191 (Or.inr (Nat.le_of_ble_eq_true rfl))).trans hKa
          have hKs := hKs.other hQ.2 (Or.inr (Nat.le_of_ble_eq_true rfl))
          refine lv_aload_n S.1 S.2.1 dX11_takeBack_96 rfl (lv_at hl 2 rfl) ?_
          refine g_get (v := .ref (α (15))) S hK hP (hB0 0 _ rfl) rfl inX11 4 (by decide) qw362 rfl dX11_takeBack_97 ?_
          refine g_get (v := .ref (α (23))) S hK hP (hB2 6 _ rfl) rfl inX8 1 (by decide) qw187 rfl dX11_takeBack_100 ?_
          refine lv_iload_n S.1 S.2.1 dX11_takeBack_103 rfl (lv_at hl 3 rfl) ?_
          have hNm : (f_X9_handBack plc car bnd x) = (S_X11_takeBack_104 plc car bnd x) := rfl
          have hCon := (c_X9_handBack l D A w1 α (23) plc car bnd bsk dyL rsn x (hB2.sub 14 rfl))
          rw [hNm] at hCon
          refine g_aft0 (st1 := []) (g_V (As := [.int x]) (rest := []) S mi_X9_handBack qw1166 hCon hK hP hD hE hS (hB2 14 _ rfl) rfl rfl rfl hl.1 (Nat.le_of_ble_eq_true rfl) rfl rfl ⟨(Nat.le_of_ble_eq_true rfl), (Nat.le_of_ble_eq_true rfl)⟩ ⟨(Nat.le_of_ble_eq_true rfl), (Nat.le_of_ble_eq_true rfl)⟩ dX11_takeBack_104) hS rfl (fun w2 H locs hQ hP hD hS => ?_)
          have hF := Same.call hF 23 hQ.2 (Nat.le_of_ble_eq_true rfl)
          have hB2 : Blk w2 9 (cVil D α 9 nums bNames pNames fBoats nB nP day votes isOpen baskets lays recs fneed clos boatO seaO faultO daysO backB sailB ((S_X11_takeBack_104 plc car bnd x).2.2) ((S_X11_takeBack_104 plc car bnd x).2.1) ((S_X11_takeBack_104 plc car bnd x).1) bsk dyL rsn pastF pastN logF logN blB blC) := hB2.splice 14 hQ.1 hQ.2 rfl (Nat.le_of_ble_eq_true rfl)
          have hB0 := hB0.other hQ.2 (Or.inl (Nat.le_of_ble_eq_true rfl))
          have hB1 := hB1.other hQ.2 (Or.inl (Nat.le_of_ble_eq_true rfl))
          have hB3 := hB3.other hQ.2 (Or.inr (Nat.le_of_ble_eq_true rfl))
          have hB4 := hB4.other hQ.2 (Or.inr (Nat.le_of_ble_eq_true rfl))
          have hH := hH.other hQ.2 (Or.inr (Nat.le_of_ble_eq_true rfl))
          have hKa := ((hQ.2).2 191 (Or.inr (Nat.le_of_ble_eq_true rfl))).trans hKa
          have hKs := hKs.other hQ.2 (Or.inr (Nat.le_of_ble_eq_true rfl))
          refine lv_iload_n S.1 S.2.1 dX11_takeBack_107 rfl (lv_at hl 0 rfl) ?_
          have hf : (f_X11_takeBack nP day votes isOpen baskets lays recs fneed clos boatO seaO faultO daysO backB sailB plc car bnd bsk dyL rsn pastF pastN logF logN hsN hsX hsF x) = ((f_X9_carrierOf car x), (S_X11_takeBack_104 plc car bnd x).1, (S_X11_takeBack_104 plc car bnd x).2.1, (S_X11_takeBack_93 day votes isOpen baskets lays recs fneed clos boatO seaO faultO daysO backB sailB plc car bnd bsk dyL rsn pastF pastN logF logN hsN hsX hsF).2.2, (S_X11_takeBack_93 day votes isOpen baskets lays recs fneed clos boatO seaO faultO daysO backB sailB plc car bnd bsk dyL rsn pastF pastN logF logN hsN hsX hsF).1, (S_X11_takeBack_93 day votes isOpen baskets lays recs fneed clos boatO seaO faultO daysO backB sailB plc car bnd bsk dyL rsn pastF pastN logF logN hsN hsX hsF).2.1, (S_X11_takeBack_104 plc car bnd x).2.2) := (cd_t c1).trans ((if_pos c2).trans ((cd_f c6).trans (cd_f c8)))
          exact g_iret S hr hlk hP hD hS (by rw [hf] <;> rfl) (by rw [hf]; (try dsimp only); exact ⟨⟨hB0, hB1, hB2, hH, hKa, hKs, hB3, hB4⟩, hF⟩) dX11_takeBack_108
        · refine lv_bipush (v := (-3)) S.1 S.2.1 dX11_takeBack_75 (by decide) ?_
          have hf : (f_X11_takeBack nP day votes isOpen baskets lays recs fneed clos boatO seaO faultO daysO backB sailB plc car bnd bsk dyL rsn pastF pastN logF logN hsN hsX hsF x) = ((-3), bnd, car, hsF, hsN, hsX, plc) := (cd_t c1).trans ((if_pos c2).trans ((cd_f c6).trans (cd_t c8)))
          exact g_iret S hr hlk hP hD hS (by rw [hf] <;> rfl) (by rw [hf]; (try dsimp only); exact ⟨⟨hB0, hB1, hB2, hH, hKa, hKs, hB3, hB4⟩, hF⟩) dX11_takeBack_77
  · refine lv_iconst (v := (-1)) S.1 S.2.1 dX11_takeBack_8 (by decide) ?_
    have hf : (f_X11_takeBack nP day votes isOpen baskets lays recs fneed clos boatO seaO faultO daysO backB sailB plc car bnd bsk dyL rsn pastF pastN logF logN hsN hsX hsF x) = ((-1), bnd, car, hsF, hsN, hsX, plc) := cd_f c1
    exact g_iret S hr hlk hP hD hS (by rw [hf] <;> rfl) (by rw [hf]; (try dsimp only); exact ⟨⟨hB0, hB1, hB2, hH, hKa, hKs, hB3, hB4⟩, hF⟩) dX11_takeBack_9
