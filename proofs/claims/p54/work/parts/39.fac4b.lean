noncomputable def f_X11_person (nP : Int32) (day : Int32) (boatO : Nat → Int32) (seaO : Nat → Int32) (faultO : Nat → Int32) (daysO : Nat → Int32) (backB : Nat → Int32) (plc : Nat → Int32) (car : Nat → Int32) (x : Int32) (y : Int32) : Int32 := (bif (f_X11_isPerson nP x) then (if y = 0 then (f_X2_boatOf boatO x) else (if y = 1 then (bif (f_X2_isAtSea seaO x) then 1 else 0) else (if y = 2 then (f_X10_homeDayOf day boatO seaO backB x) else (if y = 3 then (f_X2_faultsOf faultO x) else (if y = 4 then (f_J6_bitCount_0f7a4 (f_X9_carriedBy plc car x)) else (if y = 5 then (f_X9_laidForOthers plc car x) else (if y = 6 then (f_X2_daysAtSeaOf daysO x) else (-1)))))))) else (-1))
set_option maxHeartbeats 4000000 in
set_option maxRecDepth 100000 in
theorem c_X11_person (l : Launch) (D : va_G) (A : Nat → Prop) (w : va_W) (α : Nat → Nat) (err : Int32) (pk : Int32) (pst : Int32) (pe : Int32) (tp : Nat → Int32) (tl : Int32) (dnums : Nat → Int32) (dbNames : Nat → Int32) (dpNames : Nat → Int32) (dfBoats : Nat → Int32) (dnB : Int32) (dnP : Int32) (nums : Nat → Int32) (bNames : Nat → Int32) (pNames : Nat → Int32) (fBoats : Nat → Int32) (nB : Int32) (nP : Int32) (day : Int32) (votes : Int32) (isOpen : Int32) (baskets : Int32) (lays : Int32) (recs : Int32) (fneed : Int32) (clos : Int32) (boatO : Nat → Int32) (seaO : Nat → Int32) (faultO : Nat → Int32) (daysO : Nat → Int32) (backB : Nat → Int32) (sailB : Nat → Int32) (plc : Nat → Int32) (car : Nat → Int32) (bnd : Nat → Int32) (bsk : Nat → Int32) (dyL : Nat → Int32) (rsn : Nat → Int32) (pastF : Nat → Int32) (pastN : Int32) (logF : Nat → Int32) (logN : Int32) (blB : Nat → Int32) (blC : Nat → Int32) (hsN : Int32) (hsX : Int32) (hsF : Nat → StT) (kpF : Nat → StT) (kpZ : Nat → Int32) (tx : Nat → Int32) (txl : Int32) (x : Int32) (y : Int32) (hV : SVW D α w err pk pst pe tp tl dnums dbNames dpNames dfBoats dnB dnP nums bNames pNames fBoats nB nP day votes isOpen baskets lays recs fneed clos boatO seaO faultO daysO backB sailB plc car bnd bsk dyL rsn pastF pastN logF logN blB blC hsN hsX hsF kpF kpZ tx txl) : Met l yX11_person (ws_ yX11_person cX11_person 3 (some .int)) ({ frames := 3, cells := 0, slots := 0, locals := 67 }) (gPre D A [.ref (α (0)), .int x, .int y] w) (gR (some (.int (f_X11_person nP day boatO seaO faultO daysO backB plc car x y)))) 0 0 A := by
  refine g_met [(0, .ref (α (0))), (1, .int x), (2, .int y)] (plainFor_of_name (by decide)) (Nat.le_of_ble_eq_true rfl) rfl (fun pg en s mi ar below me co ls S hK hP hD hE hS hr hlk hnm hl => ?_)
  obtain ⟨hB0, hB1, hB2, hH, hKa, hKs, hB3, hB4⟩ := hV
  refine lv_aload_n S.1 S.2.1 dX11_person_0 rfl (lv_at hl 0 rfl) ?_
  refine lv_iload_n S.1 S.2.1 dX11_person_1 rfl (lv_at hl 1 rfl) ?_
  refine g_aftR0 (st1 := [.int (b2i (f_X11_isPerson nP x))]) (g_V (As := [.int x]) (rest := []) S mi_X11_isPerson qw467 (c_X11_isPerson l D A w α err pk pst pe tp tl dnums dbNames dpNames dfBoats dnB dnP nums bNames pNames fBoats nB nP day votes isOpen baskets lays recs fneed clos boatO seaO faultO daysO backB sailB plc car bnd bsk dyL rsn pastF pastN logF logN blB blC hsN hsX hsF kpF kpZ tx txl x ⟨hB0, hB1, hB2, hH, hKa, hKs, hB3, hB4⟩) hK hP hD hE hS (hB0 0 _ rfl) rfl rfl rfl hl.1 (Nat.le_of_ble_eq_true rfl) rfl rfl ⟨(Nat.le_of_ble_eq_true rfl), (Nat.le_of_ble_eq_true rfl)⟩ ⟨(Nat.le_of_ble_eq_true rfl), (Nat.le_of_ble_eq_true rfl)⟩ dX11_person_2) hS rfl (fun locs hS => ?_)
  refine g_bifne (b := (f_X11_isPerson nP x)) (tgt := 10) S dX11_person_5 (by decide) (fun (c1 : (f_X11_isPerson nP x) = true) => ?_) (fun (c1 : (f_X11_isPerson nP x) = false) => ?_)
  · refine lv_iload_n S.1 S.2.1 dX11_person_10 rfl (lv_at hl 2 rfl) ?_
    by_cases k2_0 : y = 0
    · refine lv_tableIn (tgt := 52) S.1 S.2.1 dX11_person_11 (by rw [k2_0]; decide) (by rw [k2_0]; decide) (by rw [k2_0]; rfl) (by decide) ?_
      refine lv_aload_n S.1 S.2.1 dX11_person_52 rfl (lv_at hl 0 rfl) ?_
      refine g_get (v := .ref (α (15))) S hK hP (hB0 0 _ rfl) rfl inX11 4 (by decide) qw362 rfl dX11_person_53 ?_
      refine g_get (v := .ref (α (16))) S hK hP (hB2 6 _ rfl) rfl inX8 0 (by decide) qw183 rfl dX11_person_56 ?_
      refine lv_iload_n S.1 S.2.1 dX11_person_59 rfl (lv_at hl 1 rfl) ?_
      refine g_aftR0 (st1 := [.int (f_X2_boatOf boatO x)]) (g_V (As := [.int x]) (rest := []) S mi_X2_boatOf qw473 (c_X2_boatOf l D A w α (16) boatO seaO faultO daysO backB sailB x (hB2.sub 7 rfl)) hK hP hD hE hS (hB2 7 _ rfl) rfl rfl rfl hl.1 (Nat.le_of_ble_eq_true rfl) rfl rfl ⟨(Nat.le_of_ble_eq_true rfl), (Nat.le_of_ble_eq_true rfl)⟩ ⟨(Nat.le_of_ble_eq_true rfl), (Nat.le_of_ble_eq_true rfl)⟩ dX11_person_60) hS rfl (fun locs hS => ?_)
      have hf : (f_X11_person nP day boatO seaO faultO daysO backB plc car x y) = (f_X2_boatOf boatO x) := (cd_t c1).trans (if_pos k2_0)
      exact g_iretR S hr hlk hS (by rw [hf] <;> rfl) dX11_person_63
    by_cases k2_1 : y = 1
    · refine lv_tableIn (tgt := 64) S.1 S.2.1 dX11_person_11 (by rw [k2_1]; decide) (by rw [k2_1]; decide) (by rw [k2_1]; rfl) (by decide) ?_
      refine lv_aload_n S.1 S.2.1 dX11_person_64 rfl (lv_at hl 0 rfl) ?_
      refine g_get (v := .ref (α (15))) S hK hP (hB0 0 _ rfl) rfl inX11 4 (by decide) qw362 rfl dX11_person_65 ?_
      refine g_get (v := .ref (α (16))) S hK hP (hB2 6 _ rfl) rfl inX8 0 (by decide) qw183 rfl dX11_person_68 ?_
      refine lv_iload_n S.1 S.2.1 dX11_person_71 rfl (lv_at hl 1 rfl) ?_
      refine g_aftR0 (st1 := [.int (b2i (f_X2_isAtSea seaO x))]) (g_V (As := [.int x]) (rest := []) S mi_X2_isAtSea qw478 (c_X2_isAtSea l D A w α (16) boatO seaO faultO daysO backB sailB x (hB2.sub 7 rfl)) hK hP hD hE hS (hB2 7 _ rfl) rfl rfl rfl hl.1 (Nat.le_of_ble_eq_true rfl) rfl rfl ⟨(Nat.le_of_ble_eq_true rfl), (Nat.le_of_ble_eq_true rfl)⟩ ⟨(Nat.le_of_ble_eq_true rfl), (Nat.le_of_ble_eq_true rfl)⟩ dX11_person_72) hS rfl (fun locs hS => ?_)
      refine g_bifeq (b := (f_X2_isAtSea seaO x)) (tgt := 82) S dX11_person_75 (by decide) (fun (c3 : (f_X2_isAtSea seaO x) = false) => ?_) (fun (c3 : (f_X2_isAtSea seaO x) = true) => ?_)
      · refine lv_iconst (v := 0) S.1 S.2.1 dX11_person_82 (by decide) ?_
        have hf : (f_X11_person nP day boatO seaO faultO daysO backB plc car x y) = 0 := (cd_t c1).trans ((if_neg k2_0).trans ((if_pos k2_1).trans (cd_f c3)))
        exact g_iretR S hr hlk hS (by rw [hf] <;> rfl) dX11_person_83
      · refine lv_iconst (v := 1) S.1 S.2.1 dX11_person_78 (by decide) ?_
        refine lv_goto (tgt := 83) S.1 S.2.1 dX11_person_79 (by decide) ?_
        have hf : (f_X11_person nP day boatO seaO faultO daysO backB plc car x y) = 1 := (cd_t c1).trans ((if_neg k2_0).trans ((if_pos k2_1).trans (cd_t c3)))
        exact g_iretR S hr hlk hS (by rw [hf] <;> rfl) dX11_person_83
    by_cases k2_2 : y = 2
    · refine lv_tableIn (tgt := 84) S.1 S.2.1 dX11_person_11 (by rw [k2_2]; decide) (by rw [k2_2]; decide) (by rw [k2_2]; rfl) (by decide) ?_
      refine lv_aload_n S.1 S.2.1 dX11_person_84 rfl (lv_at hl 0 rfl) ?_
      refine g_get (v := .ref (α (9))) S hK hP (hB0 0 _ rfl) rfl inX11 2 (by decide) qw360 rfl dX11_person_85 ?_
      refine lv_iload_n S.1 S.2.1 dX11_person_88 rfl (lv_at hl 1 rfl) ?_
      refine g_aftR0 (st1 := [.int (f_X10_homeDayOf day boatO seaO backB x)]) (g_V (As := [.int x]) (rest := []) S mi_X10_homeDayOf qw482 (c_X10_homeDayOf l D A w α (9) nums bNames pNames fBoats nB nP day votes isOpen baskets lays recs fneed clos boatO seaO faultO daysO backB sailB plc car bnd bsk dyL rsn pastF pastN logF logN blB blC x hB2) hK hP hD hE hS (hB2 0 _ rfl) rfl rfl rfl hl.1 (Nat.le_of_ble_eq_true rfl) rfl rfl ⟨(Nat.le_of_ble_eq_true rfl), (Nat.le_of_ble_eq_true rfl)⟩ ⟨(Nat.le_of_ble_eq_true rfl), (Nat.le_of_ble_eq_true rfl)⟩ dX11_person_89) hS rfl (fun locs hS => ?_)
      have hf : (f_X11_person nP day boatO seaO faultO daysO backB plc car x y) = (f_X10_homeDayOf day boatO seaO backB x) := (cd_t c1).trans ((if_neg k2_0).trans ((if_neg k2_1).trans (if_pos k2_2)))
      exact g_iretR S hr hlk hS (by rw [hf] <;> rfl) dX11_person_92
    by_cases k2_3 : y = 3
    · refine lv_tableIn (tgt := 93) S.1 S.2.1 dX11_person_11 (by rw [k2_3]; decide) (by rw [k2_3]; decide) (by rw [k2_3]; rfl) (by decide) ?_
      refine lv_aload_n S.1 S.2.1 dX11_person_93 rfl (lv_at hl 0 rfl) ?_
      refine g_get (v := .ref (α (15))) S hK hP (hB0 0 _ rfl) rfl inX11 4 (by decide) qw362 rfl dX11_person_94 ?_
      refine g_get (v := .ref (α (16))) S hK hP (hB2 6 _ rfl) rfl inX8 0 (by decide) qw183 rfl dX11_person_97 ?_
      refine lv_iload_n S.1 S.2.1 dX11_person_100 rfl (lv_at hl 1 rfl) ?_
      refine g_aftR0 (st1 := [.int (f_X2_faultsOf faultO x)]) (g_V (As := [.int x]) (rest := []) S mi_X2_faultsOf qw492 (c_X2_faultsOf l D A w α (16) boatO seaO faultO daysO backB sailB x (hB2.sub 7 rfl)) hK hP hD hE hS (hB2 7 _ rfl) rfl rfl rfl hl.1 (Nat.le_of_ble_eq_true rfl) rfl rfl ⟨(Nat.le_of_ble_eq_true rfl), (Nat.le_of_ble_eq_true rfl)⟩ ⟨(Nat.le_of_ble_eq_true rfl), (Nat.le_of_ble_eq_true rfl)⟩ dX11_person_101) hS rfl (fun locs hS => ?_)
      have hf : (f_X11_person nP day boatO seaO faultO daysO backB plc car x y) = (f_X2_faultsOf faultO x) := (cd_t c1).trans ((if_neg k2_0).trans ((if_neg k2_1).trans ((if_neg k2_2).trans (if_pos k2_3))))
      exact g_iretR S hr hlk hS (by rw [hf] <;> rfl) dX11_person_104
    by_cases k2_4 : y = 4
    · refine lv_tableIn (tgt := 105) S.1 S.2.1 dX11_person_11 (by rw [k2_4]; decide) (by rw [k2_4]; decide) (by rw [k2_4]; rfl) (by decide) ?_
      refine lv_aload_n S.1 S.2.1 dX11_person_105 rfl (lv_at hl 0 rfl) ?_
      refine g_get (v := .ref (α (15))) S hK hP (hB0 0 _ rfl) rfl inX11 4 (by decide) qw362 rfl dX11_person_106 ?_
      refine g_get (v := .ref (α (23))) S hK hP (hB2 6 _ rfl) rfl inX8 1 (by decide) qw187 rfl dX11_person_109 ?_
      refine lv_iload_n S.1 S.2.1 dX11_person_112 rfl (lv_at hl 1 rfl) ?_
      refine g_aftR0 (st1 := [.int (f_X9_carriedBy plc car x)]) (g_V (As := [.int x]) (rest := []) S mi_X9_carriedBy qw496 (c_X9_carriedBy l D A w α (23) plc car bnd bsk dyL rsn x (hB2.sub 14 rfl)) hK hP hD hE hS (hB2 14 _ rfl) rfl rfl rfl hl.1 (Nat.le_of_ble_eq_true rfl) rfl rfl ⟨(Nat.le_of_ble_eq_true rfl), (Nat.le_of_ble_eq_true rfl)⟩ ⟨(Nat.le_of_ble_eq_true rfl), (Nat.le_of_ble_eq_true rfl)⟩ dX11_person_113) hS rfl (fun locs hS => ?_)
      refine g_aftR0 (st1 := [.int (f_J6_bitCount_0f7a4 (f_X9_carriedBy plc car x))]) (g_St (As := [.int (f_X9_carriedBy plc car x)]) (rest := []) S ms_J6_bitCount_0f7a4 qw504 (c_J6_bitCount_0f7a4 l D A w α (f_X9_carriedBy plc car x)) hK hP hD hE hS rfl rfl hl.1 (Nat.le_of_ble_eq_true rfl) rfl rfl ⟨(Nat.le_of_ble_eq_true rfl), (Nat.le_of_ble_eq_true rfl)⟩ ⟨(Nat.le_of_ble_eq_true rfl), (Nat.le_of_ble_eq_true rfl)⟩ dX11_person_116) hS rfl (fun locs hS => ?_)
      have hf : (f_X11_person nP day boatO seaO faultO daysO backB plc car x y) = (f_J6_bitCount_0f7a4 (f_X9_carriedBy plc car x)) := (cd_t c1).trans ((if_neg k2_0).trans ((if_neg k2_1).trans ((if_neg k2_2).trans ((if_neg k2_3).trans (if_pos k2_4)))))
      exact g_iretR S hr hlk hS (by rw [hf] <;> rfl) dX11_person_119
    by_cases k2_5 : y = 5
    · refine lv_tableIn (tgt := 120) S.1 S.2.1 dX11_person_11 (by rw [k2_5]; decide) (by rw [k2_5]; decide) (by rw [k2_5]; rfl) (by decide) ?_
      refine lv_aload_n S.1 S.2.1 dX11_person_120 rfl (lv_at hl 0 rfl) ?_
      refine g_get (v := .ref (α (15))) S hK hP (hB0 0 _ rfl) rfl inX11 4 (by decide) qw362 rfl dX11_person_121 ?_
      refine g_get (v := .ref (α (23))) S hK hP (hB2 6 _ rfl) rfl inX8 1 (by decide) qw187 rfl dX11_person_124 ?_
      refine lv_iload_n S.1 S.2.1 dX11_person_127 rfl (lv_at hl 1 rfl) ?_
      refine g_aftR0 (st1 := [.int (f_X9_laidForOthers plc car x)]) (g_V (As := [.int x]) (rest := []) S mi_X9_laidForOthers qw510 (c_X9_laidForOthers l D A w α (23) plc car bnd bsk dyL rsn x (hB2.sub 14 rfl)) hK hP hD hE hS (hB2 14 _ rfl) rfl rfl rfl hl.1 (Nat.le_of_ble_eq_true rfl) rfl rfl ⟨(Nat.le_of_ble_eq_true rfl), (Nat.le_of_ble_eq_true rfl)⟩ ⟨(Nat.le_of_ble_eq_true rfl), (Nat.le_of_ble_eq_true rfl)⟩ dX11_person_128) hS rfl (fun locs hS => ?_)
      have hf : (f_X11_person nP day boatO seaO faultO daysO backB plc car x y) = (f_X9_laidForOthers plc car x) := (cd_t c1).trans ((if_neg k2_0).trans ((if_neg k2_1).trans ((if_neg k2_2).trans ((if_neg k2_3).trans ((if_neg k2_4).trans (if_pos k2_5))))))
      exact g_iretR S hr hlk hS (by rw [hf] <;> rfl) dX11_person_131
    by_cases k2_6 : y = 6
    · refine lv_tableIn (tgt := 132) S.1 S.2.1 dX11_person_11 (by rw [k2_6]; decide) (by rw [k2_6]; decide) (by rw [k2_6]; rfl) (by decide) ?_
      refine lv_aload_n S.1 S.2.1 dX11_person_132 rfl (lv_at hl 0 rfl) ?_
      refine g_get (v := .ref (α (15))) S hK hP (hB0 0 _ rfl) rfl inX11 4 (by decide) qw362 rfl dX11_person_133 ?_
      refine g_get (v := .ref (α (16))) S hK hP (hB2 6 _ rfl) rfl inX8 0 (by decide) qw183 rfl dX11_person_136 ?_
      refine lv_iload_n S.1 S.2.1 dX11_person_139 rfl (lv_at hl 1 rfl) ?_
      refine g_aftR0 (st1 := [.int (f_X2_daysAtSeaOf daysO x)]) (g_V (As := [.int x]) (rest := []) S mi_X2_daysAtSeaOf qw514 (c_X2_daysAtSeaOf l D A w α (16) boatO seaO faultO daysO backB sailB x (hB2.sub 7 rfl)) hK hP hD hE hS (hB2 7 _ rfl) rfl rfl rfl hl.1 (Nat.le_of_ble_eq_true rfl) rfl rfl ⟨(Nat.le_of_ble_eq_true rfl), (Nat.le_of_ble_eq_true rfl)⟩ ⟨(Nat.le_of_ble_eq_true rfl), (Nat.le_of_ble_eq_true rfl)⟩ dX11_person_140) hS rfl (fun locs hS => ?_)
      have hf : (f_X11_person nP day boatO seaO faultO daysO backB plc car x y) = (f_X2_daysAtSeaOf daysO x) := (cd_t c1).trans ((if_neg k2_0).trans ((if_neg k2_1).trans ((if_neg k2_2).trans ((if_neg k2_3).trans ((if_neg k2_4).trans ((if_neg k2_5).trans (if_pos k2_6)))))))
      exact g_iretR S hr hlk hS (by rw [hf] <;> rfl) dX11_person_143
    have hout : y.toInt < (0 : Int) ∨ (6 : Int) < y.toInt := sw_out (lo := 0) (n := 7) (by decide) (fun i hi => by match i, hi with | 0, _ => exact k2_0 | 1, _ => exact k2_1 | 2, _ => exact k2_2 | 3, _ => exact k2_3 | 4, _ => exact k2_4 | 5, _ => exact k2_5 | 6, _ => exact k2_6 | i + 7, h => exact absurd h (by omega))
    refine lv_tableOut (tgt := 144) S.1 S.2.1 dX11_person_11 hout (by decide) ?_
    refine lv_iconst (v := (-1)) S.1 S.2.1 dX11_person_144 (by decide) ?_
    have hf : (f_X11_person nP day boatO seaO faultO daysO backB plc car x y) = (-1) := (cd_t c1).trans ((if_neg k2_0).trans ((if_neg k2_1).trans ((if_neg k2_2).trans ((if_neg k2_3).trans ((if_neg k2_4).trans ((if_neg k2_5).trans (if_neg k2_6)))))))
    exact g_iretR S hr hlk hS (by rw [hf] <;> rfl) dX11_person_145
  · refine lv_iconst (v := (-1)) S.1 S.2.1 dX11_person_8 (by decide) ?_
    have hf : (f_X11_person nP day boatO seaO faultO daysO backB plc car x y) = (-1) := cd_f c1
    exact g_iretR S hr hlk hS (by rw [hf] <;> rfl) dX11_person_9
