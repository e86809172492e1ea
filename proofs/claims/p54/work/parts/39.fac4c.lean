noncomputable def f_X11_boat (nB : Int32) (day : Int32) (boatO : Nat → Int32) (seaO : Nat → Int32) (backB : Nat → Int32) (sailB : Nat → Int32) (x : Int32) (y : Int32) : Int32 := (bif (f_X11_isBoat nB x) then (if y = 0 then (bif (f_X2_isOut backB x) then 1 else 0) else (if y = 1 then (bif (f_X2_isOut backB x) then (f_X2_backOf backB x) else day) else (if y = 2 then (f_X2_aboard boatO seaO x) else (if y = 3 then (f_X2_belongingTo boatO x) else (if y = 4 then (f_X2_sailedOf sailB x) else (-1)))))) else (-1))
set_option maxHeartbeats 4000000 in
set_option maxRecDepth 100000 in
theorem c_X11_boat (l : Launch) (D : va_G) (A : Nat → Prop) (w : va_W) (α : Nat → Nat) (err : Int32) (pk : Int32) (pst : Int32) (pe : Int32) (tp : Nat → Int32) (tl : Int32) (dnums : Nat → Int32) (dbNames : Nat → Int32) (dpNames : Nat → Int32) (dfBoats : Nat → Int32) (dnB : Int32) (dnP : Int32) (nums : Nat → Int32) (bNames : Nat → Int32) (pNames : Nat → Int32) (fBoats : Nat → Int32) (nB : Int32) (nP : Int32) (day : Int32) (votes : Int32) (isOpen : Int32) (baskets : Int32) (lays : Int32) (recs : Int32) (fneed : Int32) (clos : Int32) (boatO : Nat → Int32) (seaO : Nat → Int32) (faultO : Nat → Int32) (daysO : Nat → Int32) (backB : Nat → Int32) (sailB : Nat → Int32) (plc : Nat → Int32) (car : Nat → Int32) (bnd : Nat → Int32) (bsk : Nat → Int32) (dyL : Nat → Int32) (rsn : Nat → Int32) (pastF : Nat → Int32) (pastN : Int32) (logF : Nat → Int32) (logN : Int32) (blB : Nat → Int32) (blC : Nat → Int32) (hsN : Int32) (hsX : Int32) (hsF : Nat → StT) (kpF : Nat → StT) (kpZ : Nat → Int32) (tx : Nat → Int32) (txl : Int32) (x : Int32) (y : Int32) (hV : SVW D α w err pk pst pe tp tl dnums dbNames dpNames dfBoats dnB dnP nums bNames pNames fBoats nB nP day votes isOpen baskets lays recs fneed clos boatO seaO faultO daysO backB sailB plc car bnd bsk dyL rsn pastF pastN logF logN blB blC hsN hsX hsF kpF kpZ tx txl) : Met l yX11_boat (ws_ yX11_boat cX11_boat 3 (some .int)) ({ frames := 3, cells := 0, slots := 0, locals := 66 }) (gPre D A [.ref (α (0)), .int x, .int y] w) (gR (some (.int (f_X11_boat nB day boatO seaO backB sailB x y)))) 0 0 A := by
  refine g_met [(0, .ref (α (0))), (1, .int x), (2, .int y)] (plainFor_of_name (by decide)) (Nat.le_of_ble_eq_true rfl) rfl (fun pg en s mi ar below me co ls S hK hP hD hE hS hr hlk hnm hl => ?_)
  obtain ⟨hB0, hB1, hB2, hH, hKa, hKs, hB3, hB4⟩ := hV
  refine lv_aload_n S.1 S.2.1 dX11_boat_0 rfl (lv_at hl 0 rfl) ?_
  refine lv_iload_n S.1 S.2.1 dX11_boat_1 rfl (lv_at hl 1 rfl) ?_
  refine g_aftR0 (st1 := [.int (b2i (f_X11_isBoat nB x))]) (g_V (As := [.int x]) (rest := []) S mi_X11_isBoat qw1095 (c_X11_isBoat l D A w α err pk pst pe tp tl dnums dbNames dpNames dfBoats dnB dnP nums bNames pNames fBoats nB nP day votes isOpen baskets lays recs fneed clos boatO seaO faultO daysO backB sailB plc car bnd bsk dyL rsn pastF pastN logF logN blB blC hsN hsX hsF kpF kpZ tx txl x ⟨hB0, hB1, hB2, hH, hKa, hKs, hB3, hB4⟩) hK hP hD hE hS (hB0 0 _ rfl) rfl rfl rfl hl.1 (Nat.le_of_ble_eq_true rfl) rfl rfl ⟨(Nat.le_of_ble_eq_true rfl), (Nat.le_of_ble_eq_true rfl)⟩ ⟨(Nat.le_of_ble_eq_true rfl), (Nat.le_of_ble_eq_true rfl)⟩ dX11_boat_2) hS rfl (fun locs hS => ?_)
  refine g_bifne (b := (f_X11_isBoat nB x)) (tgt := 10) S dX11_boat_5 (by decide) (fun (c1 : (f_X11_isBoat nB x) = true) => ?_) (fun (c1 : (f_X11_isBoat nB x) = false) => ?_)
  · refine lv_iload_n S.1 S.2.1 dX11_boat_10 rfl (lv_at hl 2 rfl) ?_
    by_cases k2_0 : y = 0
    · refine lv_tableIn (tgt := 44) S.1 S.2.1 dX11_boat_11 (by rw [k2_0]; decide) (by rw [k2_0]; decide) (by rw [k2_0]; rfl) (by decide) ?_
      refine lv_aload_n S.1 S.2.1 dX11_boat_44 rfl (lv_at hl 0 rfl) ?_
      refine g_get (v := .ref (α (15))) S hK hP (hB0 0 _ rfl) rfl inX11 4 (by decide) qw362 rfl dX11_boat_45 ?_
      refine g_get (v := .ref (α (16))) S hK hP (hB2 6 _ rfl) rfl inX8 0 (by decide) qw183 rfl dX11_boat_48 ?_
      refine lv_iload_n S.1 S.2.1 dX11_boat_51 rfl (lv_at hl 1 rfl) ?_
      refine g_aftR0 (st1 := [.int (b2i (f_X2_isOut backB x))]) (g_V (As := [.int x]) (rest := []) S mi_X2_isOut qw1102 (c_X2_isOut l D A w α (16) boatO seaO faultO daysO backB sailB x (hB2.sub 7 rfl)) hK hP hD hE hS (hB2 7 _ rfl) rfl rfl rfl hl.1 (Nat.le_of_ble_eq_true rfl) rfl rfl ⟨(Nat.le_of_ble_eq_true rfl), (Nat.le_of_ble_eq_true rfl)⟩ ⟨(Nat.le_of_ble_eq_true rfl), (Nat.le_of_ble_eq_true rfl)⟩ dX11_boat_52) hS rfl (fun locs hS => ?_)
      refine g_bifeq (b := (f_X2_isOut backB x)) (tgt := 62) S dX11_boat_55 (by decide) (fun (c3 : (f_X2_isOut backB x) = false) => ?_) (fun (c3 : (f_X2_isOut backB x) = true) => ?_)
      · refine lv_iconst (v := 0) S.1 S.2.1 dX11_boat_62 (by decide) ?_
        have hf : (f_X11_boat nB day boatO seaO backB sailB x y) = 0 := (cd_t c1).trans ((if_pos k2_0).trans (cd_f c3))
        exact g_iretR S hr hlk hS (by rw [hf] <;> rfl) dX11_boat_63
      · refine lv_iconst (v := 1) S.1 S.2.1 dX11_boat_58 (by decide) ?_
        refine lv_goto (tgt := 63) S.1 S.2.1 dX11_boat_59 (by decide) ?_
        have hf : (f_X11_boat nB day boatO seaO backB sailB x y) = 1 := (cd_t c1).trans ((if_pos k2_0).trans (cd_t c3))
        exact g_iretR S hr hlk hS (by rw [hf] <;> rfl) dX11_boat_63
    by_cases k2_1 : y = 1
    · refine lv_tableIn (tgt := 64) S.1 S.2.1 dX11_boat_11 (by rw [k2_1]; decide) (by rw [k2_1]; decide) (by rw [k2_1]; rfl) (by decide) ?_
      refine lv_aload_n S.1 S.2.1 dX11_boat_64 rfl (lv_at hl 0 rfl) ?_
      refine g_get (v := .ref (α (15))) S hK hP (hB0 0 _ rfl) rfl inX11 4 (by decide) qw362 rfl dX11_boat_65 ?_
      refine g_get (v := .ref (α (16))) S hK hP (hB2 6 _ rfl) rfl inX8 0 (by decide) qw183 rfl dX11_boat_68 ?_
      refine lv_iload_n S.1 S.2.1 dX11_boat_71 rfl (lv_at hl 1 rfl) ?_
      refine g_aftR0 (st1 := [.int (b2i (f_X2_isOut backB x))]) (g_V (As := [.int x]) (rest := []) S mi_X2_isOut qw1102 (c_X2_isOut l D A w α (16) boatO seaO faultO daysO backB sailB x (hB2.sub 7 rfl)) hK hP hD hE hS (hB2 7 _ rfl) rfl rfl rfl hl.1 (Nat.le_of_ble_eq_true rfl) rfl rfl ⟨(Nat.le_of_ble_eq_true rfl), (Nat.le_of_ble_eq_true rfl)⟩ ⟨(Nat.le_of_ble_eq_true rfl), (Nat.le_of_ble_eq_true rfl)⟩ dX11_boat_72) hS rfl (fun locs hS => ?_)
      refine g_bifeq (b := (f_X2_isOut backB x)) (tgt := 92) S dX11_boat_75 (by decide) (fun (c4 : (f_X2_isOut backB x) = false) => ?_) (fun (c4 : (f_X2_isOut backB x) = true) => ?_)
      · refine lv_aload_n S.1 S.2.1 dX11_boat_92 rfl (lv_at hl 0 rfl) ?_
        refine g_get (v := .ref (α (15))) S hK hP (hB0 0 _ rfl) rfl inX11 4 (by decide) qw362 rfl dX11_boat_93 ?_
        refine g_get (v := .int day) S hK hP (hB2 6 _ rfl) rfl inX8 4 (by decide) qw196 rfl dX11_boat_96 ?_
        have hf : (f_X11_boat nB day boatO seaO backB sailB x y) = day := (cd_t c1).trans ((if_neg k2_0).trans ((if_pos k2_1).trans (cd_f c4)))
        exact g_iretR S hr hlk hS (by rw [hf] <;> rfl) dX11_boat_99
      · refine lv_aload_n S.1 S.2.1 dX11_boat_78 rfl (lv_at hl 0 rfl) ?_
        refine g_get (v := .ref (α (15))) S hK hP (hB0 0 _ rfl) rfl inX11 4 (by decide) qw362 rfl dX11_boat_79 ?_
        refine g_get (v := .ref (α (16))) S hK hP (hB2 6 _ rfl) rfl inX8 0 (by decide) qw183 rfl dX11_boat_82 ?_
        refine lv_iload_n S.1 S.2.1 dX11_boat_85 rfl (lv_at hl 1 rfl) ?_
        refine g_aftR0 (st1 := [.int (f_X2_backOf backB x)]) (g_V (As := [.int x]) (rest := []) S mi_X2_backOf qw1130 (c_X2_backOf l D A w α (16) boatO seaO faultO daysO backB sailB x (hB2.sub 7 rfl)) hK hP hD hE hS (hB2 7 _ rfl) rfl rfl rfl hl.1 (Nat.le_of_ble_eq_true rfl) rfl rfl ⟨(Nat.le_of_ble_eq_true rfl), (Nat.le_of_ble_eq_true rfl)⟩ ⟨(Nat.le_of_ble_eq_true rfl), (Nat.le_of_ble_eq_true rfl)⟩ dX11_boat_86) hS rfl (fun locs hS => ?_)
        refine lv_goto (tgt := 99) S.1 S.2.1 dX11_boat_89 (by decide) ?_
        have hf : (f_X11_boat nB day boatO seaO backB sailB x y) = (f_X2_backOf backB x) := (cd_t c1).trans ((if_neg k2_0).trans ((if_pos k2_1).trans (cd_t c4)))
        exact g_iretR S hr hlk hS (by rw [hf] <;> rfl) dX11_boat_99
    by_cases k2_2 : y = 2
    · refine lv_tableIn (tgt := 100) S.1 S.2.1 dX11_boat_11 (by rw [k2_2]; decide) (by rw [k2_2]; decide) (by rw [k2_2]; rfl) (by decide) ?_
      refine lv_aload_n S.1 S.2.1 dX11_boat_100 rfl (lv_at hl 0 rfl) ?_
      refine g_get (v := .ref (α (15))) S hK hP (hB0 0 _ rfl) rfl inX11 4 (by decide) qw362 rfl dX11_boat_101 ?_
      refine g_get (v := .ref (α (16))) S hK hP (hB2 6 _ rfl) rfl inX8 0 (by decide) qw183 rfl dX11_boat_104 ?_
      refine lv_iload_n S.1 S.2.1 dX11_boat_107 rfl (lv_at hl 1 rfl) ?_
      refine g_aftR0 (st1 := [.int (f_X2_aboard boatO seaO x)]) (g_V (As := [.int x]) (rest := []) S mi_X2_aboard qw1323 (c_X2_aboard l D A w α (16) boatO seaO faultO daysO backB sailB x (hB2.sub 7 rfl)) hK hP hD hE hS (hB2 7 _ rfl) rfl rfl rfl hl.1 (Nat.le_of_ble_eq_true rfl) rfl rfl ⟨(Nat.le_of_ble_eq_true rfl), (Nat.le_of_ble_eq_true rfl)⟩ ⟨(Nat.le_of_ble_eq_true rfl), (Nat.le_of_ble_eq_true rfl)⟩ dX11_boat_108) hS rfl (fun locs hS => ?_)
      have hf : (f_X11_boat nB day boatO seaO backB sailB x y) = (f_X2_aboard boatO seaO x) := (cd_t c1).trans ((if_neg k2_0).trans ((if_neg k2_1).trans (if_pos k2_2)))
      exact g_iretR S hr hlk hS (by rw [hf] <;> rfl) dX11_boat_111
    by_cases k2_3 : y = 3
    · refine lv_tableIn (tgt := 112) S.1 S.2.1 dX11_boat_11 (by rw [k2_3]; decide) (by rw [k2_3]; decide) (by rw [k2_3]; rfl) (by decide) ?_
      refine lv_aload_n S.1 S.2.1 dX11_boat_112 rfl (lv_at hl 0 rfl) ?_
      refine g_get (v := .ref (α (15))) S hK hP (hB0 0 _ rfl) rfl inX11 4 (by decide) qw362 rfl dX11_boat_113 ?_
      refine g_get (v := .ref (α (16))) S hK hP (hB2 6 _ rfl) rfl inX8 0 (by decide) qw183 rfl dX11_boat_116 ?_
      refine lv_iload_n S.1 S.2.1 dX11_boat_119 rfl (lv_at hl 1 rfl) ?_
      refine g_aftR0 (st1 := [.int (f_X2_belongingTo boatO x)]) (g_V (As := [.int x]) (rest := []) S mi_X2_belongingTo qw1324 (c_X2_belongingTo l D A w α (16) boatO seaO faultO daysO backB sailB x (hB2.sub 7 rfl)) hK hP hD hE hS (hB2 7 _ rfl) rfl rfl rfl hl.1 (Nat.le_of_ble_eq_true rfl) rfl rfl ⟨(Nat.le_of_ble_eq_true rfl), (Nat.le_of_ble_eq_true rfl)⟩ ⟨(Nat.le_of_ble_eq_true rfl), (Nat.le_of_ble_eq_true rfl)⟩ dX11_boat_120) hS rfl (fun locs hS => ?_)
      have hf : (f_X11_boat nB day boatO seaO backB sailB x y) = (f_X2_belongingTo boatO x) := (cd_t c1).trans ((if_neg k2_0).trans ((if_neg k2_1).trans ((if_neg k2_2).trans (if_pos k2_3))))
      exact g_iretR S hr hlk hS (by rw [hf] <;> rfl) dX11_boat_123
    by_cases k2_4 : y = 4
    · refine lv_tableIn (tgt := 124) S.1 S.2.1 dX11_boat_11 (by rw [k2_4]; decide) (by rw [k2_4]; decide) (by rw [k2_4]; rfl) (by decide) ?_
      refine lv_aload_n S.1 S.2.1 dX11_boat_124 rfl (lv_at hl 0 rfl) ?_
      refine g_get (v := .ref (α (15))) S hK hP (hB0 0 _ rfl) rfl inX11 4 (by decide) qw362 rfl dX11_boat_125 ?_
      refine g_get (v := .ref (α (16))) S hK hP (hB2 6 _ rfl) rfl inX8 0 (by decide) qw183 rfl dX11_boat_128 ?_
      refine lv_iload_n S.1 S.2.1 dX11_boat_131 rfl (lv_at hl 1 rfl) ?_
      refine g_aftR0 (st1 := [.int (f_X2_sailedOf sailB x)]) (g_V (As := [.int x]) (rest := []) S mi_X2_sailedOf qw1328 (c_X2_sailedOf l D A w α (16) boatO seaO faultO daysO backB sailB x (hB2.sub 7 rfl)) hK hP hD hE hS (hB2 7 _ rfl) rfl rfl rfl hl.1 (Nat.le_of_ble_eq_true rfl) rfl rfl ⟨(Nat.le_of_ble_eq_true rfl), (Nat.le_of_ble_eq_true rfl)⟩ ⟨(Nat.le_of_ble_eq_true rfl), (Nat.le_of_ble_eq_true rfl)⟩ dX11_boat_132) hS rfl (fun locs hS => ?_)
      have hf : (f_X11_boat nB day boatO seaO backB sailB x y) = (f_X2_sailedOf sailB x) := (cd_t c1).trans ((if_neg k2_0).trans ((if_neg k2_1).trans ((if_neg k2_2).trans ((if_neg k2_3).trans (if_pos k2_4)))))
      exact g_iretR S hr hlk hS (by rw [hf] <;> rfl) dX11_boat_135
    have hout : y.toInt < (0 : Int) ∨ (4 : Int) < y.toInt := sw_out (lo := 0) (n := 5) (by decide) (fun i hi => by match i, hi with | 0, _ => exact k2_0 | 1, _ => exact k2_1 | 2, _ => exact k2_2 | 3, _ => exact k2_3 | 4, _ => exact k2_4 | i + 5, h => exact absurd h (by omega))
    refine lv_tableOut (tgt := 136) S.1 S.2.1 dX11_boat_11 hout (by decide) ?_
    refine lv_iconst (v := (-1)) S.1 S.2.1 dX11_boat_136 (by decide) ?_
    have hf : (f_X11_boat nB day boatO seaO backB sailB x y) = (-1) := (cd_t c1).trans ((if_neg k2_0).trans ((if_neg k2_1).trans ((if_neg k2_2).trans ((if_neg k2_3).trans (if_neg k2_4)))))
    exact g_iretR S hr hlk hS (by rw [hf] <;> rfl) dX11_boat_137
  · refine lv_iconst (v := (-1)) S.1 S.2.1 dX11_boat_8 (by decide) ?_
    have hf : (f_X11_boat nB day boatO seaO backB sailB x y) = (-1) := cd_f c1
    exact g_iretR S hr hlk hS (by rw [hf] <;> rfl) dX11_boat_9
