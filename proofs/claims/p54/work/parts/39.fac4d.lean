noncomputable def f_X11_stick (nP : Int32) (plc : Nat → Int32) (car : Nat → Int32) (bnd : Nat → Int32) (bsk : Nat → Int32) (dyL : Nat → Int32) (rsn : Nat → Int32) (x : Int32) (y : Int32) : Int32 := (bif (f_X11_isPerson nP x) then (if y = 0 then (f_X9_placeOf plc x) else (if y = 1 then (f_X9_carrierOf car x) else (if y = 2 then (f_X9_boundTo bnd x) else (if y = 3 then (f_X9_basketOf bsk x) else (if y = 4 then (f_X9_dayOf dyL x) else (if y = 5 then (f_X9_reasonOf rsn x) else (-1))))))) else (-1))
set_option maxHeartbeats 4000000 in
set_option maxRecDepth 100000 in
theorem c_X11_stick (l : Launch) (D : va_G) (A : Nat → Prop) (w : va_W) (α : Nat → Nat) (err : Int32) (pk : Int32) (pst : Int32) (pe : Int32) (tp : Nat → Int32) (tl : Int32) (dnums : Nat → Int32) (dbNames : Nat → Int32) (dpNames : Nat → Int32) (dfBoats : Nat → Int32) (dnB : Int32) (dnP : Int32) (nums : Nat → Int32) (bNames : Nat → Int32) (pNames : Nat → Int32) (fBoats : Nat → Int32) (nB : Int32) (nP : Int32) (day : Int32) (votes : Int32) (isOpen : Int32) (baskets : Int32) (lays : Int32) (recs : Int32) (fneed : Int32) (clos : Int32) (boatO : Nat → Int32) (seaO : Nat → Int32) (faultO : Nat → Int32) (daysO : Nat → Int32) (backB : Nat → Int32) (sailB : Nat → Int32) (plc : Nat → Int32) (car : Nat → Int32) (bnd : Nat → Int32) (bsk : Nat → Int32) (dyL : Nat → Int32) (rsn : Nat → Int32) (pastF : Nat → Int32) (pastN : Int32) (logF : Nat → Int32) (logN : Int32) (blB : Nat → Int32) (blC : Nat → Int32) (hsN : Int32) (hsX : Int32) (hsF : Nat → StT) (kpF : Nat → StT) (kpZ : Nat → Int32) (tx : Nat → Int32) (txl : Int32) (x : Int32) (y : Int32) (hV : SVW D α w err pk pst pe tp tl dnums dbNames dpNames dfBoats dnB dnP nums bNames pNames fBoats nB nP day votes isOpen baskets lays recs fneed clos boatO seaO faultO daysO backB sailB plc car bnd bsk dyL rsn pastF pastN logF logN blB blC hsN hsX hsF kpF kpZ tx txl) : Met l yX11_stick (ws_ yX11_stick cX11_stick 3 (some .int)) ({ frames := 2, cells := 0, slots := 0, locals := 43 }) (gPre D A [.ref (α (0)), .int x, .int y] w) (gR (some (.int (f_X11_stick nP plc car bnd bsk dyL rsn x y)))) 0 0 A := by
  refine g_met [(0, .ref (α (0))), (1, .int x), (2, .int y)] (plainFor_of_name (by decide)) (Nat.le_of_ble_eq_true rfl) rfl (fun pg en s mi ar below me co ls S hK hP hD hE hS hr hlk hnm hl => ?_)
  obtain ⟨hB0, hB1, hB2, hH, hKa, hKs, hB3, hB4⟩ := hV
  refine lv_aload_n S.1 S.2.1 dX11_stick_0 rfl (lv_at hl 0 rfl) ?_
  refine lv_iload_n S.1 S.2.1 dX11_stick_1 rfl (lv_at hl 1 rfl) ?_
  refine g_aftR0 (st1 := [.int (b2i (f_X11_isPerson nP x))]) (g_V (As := [.int x]) (rest := []) S mi_X11_isPerson qw467 (c_X11_isPerson l D A w α err pk pst pe tp tl dnums dbNames dpNames dfBoats dnB dnP nums bNames pNames fBoats nB nP day votes isOpen baskets lays recs fneed clos boatO seaO faultO daysO backB sailB plc car bnd bsk dyL rsn pastF pastN logF logN blB blC hsN hsX hsF kpF kpZ tx txl x ⟨hB0, hB1, hB2, hH, hKa, hKs, hB3, hB4⟩) hK hP hD hE hS (hB0 0 _ rfl) rfl rfl rfl hl.1 (Nat.le_of_ble_eq_true rfl) rfl rfl ⟨(Nat.le_of_ble_eq_true rfl), (Nat.le_of_ble_eq_true rfl)⟩ ⟨(Nat.le_of_ble_eq_true rfl), (Nat.le_of_ble_eq_true rfl)⟩ dX11_stick_2) hS rfl (fun locs hS => ?_)
  refine g_bifne (b := (f_X11_isPerson nP x)) (tgt := 10) S dX11_stick_5 (by decide) (fun (c1 : (f_X11_isPerson nP x) = true) => ?_) (fun (c1 : (f_X11_isPerson nP x) = false) => ?_)
  · refine lv_iload_n S.1 S.2.1 dX11_stick_10 rfl (lv_at hl 2 rfl) ?_
    by_cases k2_0 : y = 0
    · refine lv_tableIn (tgt := 48) S.1 S.2.1 dX11_stick_11 (by rw [k2_0]; decide) (by rw [k2_0]; decide) (by rw [k2_0]; rfl) (by decide) ?_
      refine lv_aload_n S.1 S.2.1 dX11_stick_48 rfl (lv_at hl 0 rfl) ?_
      refine g_get (v := .ref (α (15))) S hK hP (hB0 0 _ rfl) rfl inX11 4 (by decide) qw362 rfl dX11_stick_49 ?_
      refine g_get (v := .ref (α (23))) S hK hP (hB2 6 _ rfl) rfl inX8 1 (by decide) qw187 rfl dX11_stick_52 ?_
      refine lv_iload_n S.1 S.2.1 dX11_stick_55 rfl (lv_at hl 1 rfl) ?_
      refine g_aftR0 (st1 := [.int (f_X9_placeOf plc x)]) (g_V (As := [.int x]) (rest := []) S mi_X9_placeOf qw1156 (c_X9_placeOf l D A w α (23) plc car bnd bsk dyL rsn x (hB2.sub 14 rfl)) hK hP hD hE hS (hB2 14 _ rfl) rfl rfl rfl hl.1 (Nat.le_of_ble_eq_true rfl) rfl rfl ⟨(Nat.le_of_ble_eq_true rfl), (Nat.le_of_ble_eq_true rfl)⟩ ⟨(Nat.le_of_ble_eq_true rfl), (Nat.le_of_ble_eq_true rfl)⟩ dX11_stick_56) hS rfl (fun locs hS => ?_)
      have hf : (f_X11_stick nP plc car bnd bsk dyL rsn x y) = (f_X9_placeOf plc x) := (cd_t c1).trans (if_pos k2_0)
      exact g_iretR S hr hlk hS (by rw [hf] <;> rfl) dX11_stick_59
    by_cases k2_1 : y = 1
    · refine lv_tableIn (tgt := 60) S.1 S.2.1 dX11_stick_11 (by rw [k2_1]; decide) (by rw [k2_1]; decide) (by rw [k2_1]; rfl) (by decide) ?_
      refine lv_aload_n S.1 S.2.1 dX11_stick_60 rfl (lv_at hl 0 rfl) ?_
      refine g_get (v := .ref (α (15))) S hK hP (hB0 0 _ rfl) rfl inX11 4 (by decide) qw362 rfl dX11_stick_61 ?_
      refine g_get (v := .ref (α (23))) S hK hP (hB2 6 _ rfl) rfl inX8 1 (by decide) qw187 rfl dX11_stick_64 ?_
      refine lv_iload_n S.1 S.2.1 dX11_stick_67 rfl (lv_at hl 1 rfl) ?_
      refine g_aftR0 (st1 := [.int (f_X9_carrierOf car x)]) (g_V (As := [.int x]) (rest := []) S mi_X9_carrierOf qw1165 (c_X9_carrierOf l D A w α (23) plc car bnd bsk dyL rsn x (hB2.sub 14 rfl)) hK hP hD hE hS (hB2 14 _ rfl) rfl rfl rfl hl.1 (Nat.le_of_ble_eq_true rfl) rfl rfl ⟨(Nat.le_of_ble_eq_true rfl), (Nat.le_of_ble_eq_true rfl)⟩ ⟨(Nat.le_of_ble_eq_true rfl), (Nat.le_of_ble_eq_true rfl)⟩ dX11_stick_68) hS rfl (fun locs hS => ?_)
      have hf : (f_X11_stick nP plc car bnd bsk dyL rsn x y) = (f_X9_carrierOf car x) := (cd_t c1).trans ((if_neg k2_0).trans (if_pos k2_1))
      exact g_iretR S hr hlk hS (by rw [hf] <;> rfl) dX11_stick_71
    by_cases k2_2 : y = 2
    · refine lv_tableIn (tgt := 72) S.1 S.2.1 dX11_stick_11 (by rw [k2_2]; decide) (by rw [k2_2]; decide) (by rw [k2_2]; rfl) (by decide) ?_
      refine lv_aload_n S.1 S.2.1 dX11_stick_72 rfl (lv_at hl 0 rfl) ?_
      refine g_get (v := .ref (α (15))) S hK hP (hB0 0 _ rfl) rfl inX11 4 (by decide) qw362 rfl dX11_stick_73 ?_
      refine g_get (v := .ref (α (23))) S hK hP (hB2 6 _ rfl) rfl inX8 1 (by decide) qw187 rfl dX11_stick_76 ?_
      refine lv_iload_n S.1 S.2.1 dX11_stick_79 rfl (lv_at hl 1 rfl) ?_
      refine g_aftR0 (st1 := [.int (f_X9_boundTo bnd x)]) (g_V (As := [.int x]) (rest := []) S mi_X9_boundTo qw1213 (c_X9_boundTo l D A w α (23) plc car bnd bsk dyL rsn x (hB2.sub 14 rfl)) hK hP hD hE hS (hB2 14 _ rfl) rfl rfl rfl hl.1 (Nat.le_of_ble_eq_true rfl) rfl rfl ⟨(Nat.le_of_ble_eq_true rfl), (Nat.le_of_ble_eq_true rfl)⟩ ⟨(Nat.le_of_ble_eq_true rfl), (Nat.le_of_ble_eq_true rfl)⟩ dX11_stick_80) hS rfl (fun locs hS => ?_)
      have hf : (f_X11_stick nP plc car bnd bsk dyL rsn x y) = (f_X9_boundTo bnd x) := (cd_t c1).trans ((if_neg k2_0).trans ((if_neg k2_1).trans (if_pos k2_2)))
      exact g_iretR S hr hlk hS (by rw [hf] <;> rfl) dX11_stick_83
    by_cases k2_3 : y = 3
    · refine lv_tableIn (tgt := 84) S.1 S.2.1 dX11_stick_11 (by rw [k2_3]; decide) (by rw [k2_3]; decide) (by rw [k2_3]; rfl) (by decide) ?_
      refine lv_aload_n S.1 S.2.1 dX11_stick_84 rfl (lv_at hl 0 rfl) ?_
      refine g_get (v := .ref (α (15))) S hK hP (hB0 0 _ rfl) rfl inX11 4 (by decide) qw362 rfl dX11_stick_85 ?_
      refine g_get (v := .ref (α (23))) S hK hP (hB2 6 _ rfl) rfl inX8 1 (by decide) qw187 rfl dX11_stick_88 ?_
      refine lv_iload_n S.1 S.2.1 dX11_stick_91 rfl (lv_at hl 1 rfl) ?_
      refine g_aftR0 (st1 := [.int (f_X9_basketOf bsk x)]) (g_V (As := [.int x]) (rest := []) S mi_X9_basketOf qw1214 (c_X9_basketOf l D A w α (23) plc car bnd bsk dyL rsn x (hB2.sub 14 rfl)) hK hP hD hE hS (hB2 14 _ rfl) rfl rfl rfl hl.1 (Nat.le_of_ble_eq_true rfl) rfl rfl ⟨(Nat.le_of_ble_eq_true rfl), (Nat.le_of_ble_eq_true rfl)⟩ ⟨(Nat.le_of_ble_eq_true rfl), (Nat.le_of_ble_eq_true rfl)⟩ dX11_stick_92) hS rfl (fun locs hS => ?_)
      have hf : (f_X11_stick nP plc car bnd bsk dyL rsn x y) = (f_X9_basketOf bsk x) := (cd_t c1).trans ((if_neg k2_0).trans ((if_neg k2_1).trans ((if_neg k2_2).trans (if_pos k2_3))))
      exact g_iretR S hr hlk hS (by rw [hf] <;> rfl) dX11_stick_95
    by_cases k2_4 : y = 4
    · refine lv_tableIn (tgt := 96) S.1 S.2.1 dX11_stick_11 (by rw [k2_4]; decide) (by rw [k2_4]; decide) (by rw [k2_4]; rfl) (by decide) ?_
      refine lv_aload_n S.1 S.2.1 dX11_stick_96 rfl (lv_at hl 0 rfl) ?_
      refine g_get (v := .ref (α (15))) S hK hP (hB0 0 _ rfl) rfl inX11 4 (by decide) qw362 rfl dX11_stick_97 ?_
      refine g_get (v := .ref (α (23))) S hK hP (hB2 6 _ rfl) rfl inX8 1 (by decide) qw187 rfl dX11_stick_100 ?_
      refine lv_iload_n S.1 S.2.1 dX11_stick_103 rfl (lv_at hl 1 rfl) ?_
      refine g_aftR0 (st1 := [.int (f_X9_dayOf dyL x)]) (g_V (As := [.int x]) (rest := []) S mi_X9_dayOf qw1215 (c_X9_dayOf l D A w α (23) plc car bnd bsk dyL rsn x (hB2.sub 14 rfl)) hK hP hD hE hS (hB2 14 _ rfl) rfl rfl rfl hl.1 (Nat.le_of_ble_eq_true rfl) rfl rfl ⟨(Nat.le_of_ble_eq_true rfl), (Nat.le_of_ble_eq_true rfl)⟩ ⟨(Nat.le_of_ble_eq_true rfl), (Nat.le_of_ble_eq_true rfl)⟩ dX11_stick_104) hS rfl (fun locs hS => ?_)
      have hf : (f_X11_stick nP plc car bnd bsk dyL rsn x y) = (f_X9_dayOf dyL x) := (cd_t c1).trans ((if_neg k2_0).trans ((if_neg k2_1).trans ((if_neg k2_2).trans ((if_neg k2_3).trans (if_pos k2_4)))))
      exact g_iretR S hr hlk hS (by rw [hf] <;> rfl) dX11_stick_107
    by_cases k2_5 : y = 5
    · refine lv_tableIn (tgt := 108) S.1 S.2.1 dX11_stick_11 (by rw [k2_5]; decide) (by rw [k2_5]; decide) (by rw [k2_5]; rfl) (by decide) ?_
      refine lv_aload_n S.1 S.2.1 dX11_stick_108 rfl (lv_at hl 0 rfl) ?_
      refine g_get (v := .ref (α (15))) S hK hP (hB0 0 _ rfl) rfl inX11 4 (by decide) qw362 rfl dX11_stick_109 ?_
      refine g_get (v := .ref (α (23))) S hK hP (hB2 6 _ rfl) rfl inX8 1 (by decide) qw187 rfl dX11_stick_112 ?_
      refine lv_iload_n S.1 S.2.1 dX11_stick_115 rfl (lv_at hl 1 rfl) ?_
      refine g_aftR0 (st1 := [.int (f_X9_reasonOf rsn x)]) (g_V (As := [.int x]) (rest := []) S mi_X9_reasonOf qw1219 (c_X9_reasonOf l D A w α (23) plc car bnd bsk dyL rsn x (hB2.sub 14 rfl)) hK hP hD hE hS (hB2 14 _ rfl) rfl rfl rfl hl.1 (Nat.le_of_ble_eq_true rfl) rfl rfl ⟨(Nat.le_of_ble_eq_true rfl), (Nat.le_of_ble_eq_true rfl)⟩ ⟨(Nat.le_of_ble_eq_true rfl), (Nat.le_of_ble_eq_true rfl)⟩ dX11_stick_116) hS rfl (fun locs hS => ?_)
      have hf : (f_X11_stick nP plc car bnd bsk dyL rsn x y) = (f_X9_reasonOf rsn x) := (cd_t c1).trans ((if_neg k2_0).trans ((if_neg k2_1).trans ((if_neg k2_2).trans ((if_neg k2_3).trans ((if_neg k2_4).trans (if_pos k2_5))))))
      exact g_iretR S hr hlk hS (by rw [hf] <;> rfl) dX11_stick_119
    have hout : y.toInt < (0 : Int) ∨ (5 : Int) < y.toInt := sw_out (lo := 0) (n := 6) (by decide) (fun i hi => by match i, hi with | 0, _ => exact k2_0 | 1, _ => exact k2_1 | 2, _ => exact k2_2 | 3, _ => exact k2_3 | 4, _ => exact k2_4 | 5, _ => exact k2_5 | i + 6, h => exact absurd h (by omega))
    refine lv_tableOut (tgt := 120) S.1 S.2.1 dX11_stick_11 hout (by decide) ?_
    refine lv_iconst (v := (-1)) S.1 S.2.1 dX11_stick_120 (by decide) ?_
    have hf : (f_X11_stick nP plc car bnd bsk dyL rsn x y) = (-1) := (cd_t c1).trans ((if_neg k2_0).trans ((if_neg k2_1).trans ((if_neg k2_2).trans ((if_neg k2_3).trans ((if_neg k2_4).trans (if_neg k2_5))))))
    exact g_iretR S hr hlk hS (by rw [hf] <;> rfl) dX11_stick_121
  · refine lv_iconst (v := (-1)) S.1 S.2.1 dX11_stick_8 (by decide) ?_
    have hf : (f_X11_stick nP plc car bnd bsk dyL rsn x y) = (-1) := cd_f c1
    exact g_iretR S hr hlk hS (by rw [hf] <;> rfl) dX11_stick_9
