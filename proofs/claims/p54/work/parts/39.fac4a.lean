noncomputable def S_X11_value_199 (nums : Nat → Int32) (nP : Int32) (day : Int32) (votes : Int32) (isOpen : Int32) (fneed : Int32) (backB : Nat → Int32) (plc : Nat → Int32) (bsk : Nat → Int32) (blB : Nat → Int32) (blC : Nat → Int32) : Int32 × (Nat → Int32) × (Nat → Int32) := (f_X10_resultNow nums nP day votes isOpen fneed backB plc bsk blB blC)
noncomputable def f_X11_value (nums : Nat → Int32) (nB : Int32) (nP : Int32) (day : Int32) (votes : Int32) (isOpen : Int32) (baskets : Int32) (recs : Int32) (fneed : Int32) (clos : Int32) (seaO : Nat → Int32) (backB : Nat → Int32) (plc : Nat → Int32) (bsk : Nat → Int32) (rsn : Nat → Int32) (logN : Int32) (blB : Nat → Int32) (blC : Nat → Int32) (x : Int32) : Int32 × (Nat → Int32) × (Nat → Int32) := (if x = 0 then (day, blB, blC) else (if x = 1 then ((f_X10_seasonOn nums day), blB, blC) else (if x = 2 then (nP, blB, blC) else (if x = 3 then (nB, blB, blC) else (if x = 4 then ((f_X2_boatsOut backB), blB, blC) else (if x = 5 then ((f_X2_peopleAtSea seaO), blB, blC) else (if x = 6 then ((f_X10_needOfVote nums nP day votes isOpen fneed backB), blB, blC) else (if x = 7 then ((f_X9_turnout plc), blB, blC) else (if x = 8 then ((f_X10_stateOfVote nums day votes isOpen clos), blB, blC) else (if x = 9 then (baskets, blB, blC) else (if x = 10 then (bif (tb isOpen) then ((-2), blB, blC) else ((S_X11_value_199 nums nP day votes isOpen fneed backB plc bsk blB blC).1, (S_X11_value_199 nums nP day votes isOpen fneed backB plc bsk blB blC).2.1, (S_X11_value_199 nums nP day votes isOpen fneed backB plc bsk blB blC).2.2)) else (if x = 11 then ((f_X9_struckOnes plc), blB, blC) else (if x = 12 then (recs, blB, blC) else (if x = 13 then (votes, blB, blC) else (if x = 14 then ((f_X5_size 30 logN), blB, blC) else (if x = 15 then ((nP - (f_X2_peopleAtSea seaO)), blB, blC) else (if x = 16 then ((f_J6_bitCount_0f7a4 (f_X9_wrongMask plc rsn)), blB, blC) else ((-1), blB, blC))))))))))))))))))
set_option maxHeartbeats 4000000 in
set_option maxRecDepth 100000 in
theorem c_X11_value (l : Launch) (D : va_G) (A : Nat → Prop) (w : va_W) (α : Nat → Nat) (err : Int32) (pk : Int32) (pst : Int32) (pe : Int32) (tp : Nat → Int32) (tl : Int32) (dnums : Nat → Int32) (dbNames : Nat → Int32) (dpNames : Nat → Int32) (dfBoats : Nat → Int32) (dnB : Int32) (dnP : Int32) (nums : Nat → Int32) (bNames : Nat → Int32) (pNames : Nat → Int32) (fBoats : Nat → Int32) (nB : Int32) (nP : Int32) (day : Int32) (votes : Int32) (isOpen : Int32) (baskets : Int32) (lays : Int32) (recs : Int32) (fneed : Int32) (clos : Int32) (boatO : Nat → Int32) (seaO : Nat → Int32) (faultO : Nat → Int32) (daysO : Nat → Int32) (backB : Nat → Int32) (sailB : Nat → Int32) (plc : Nat → Int32) (car : Nat → Int32) (bnd : Nat → Int32) (bsk : Nat → Int32) (dyL : Nat → Int32) (rsn : Nat → Int32) (pastF : Nat → Int32) (pastN : Int32) (logF : Nat → Int32) (logN : Int32) (blB : Nat → Int32) (blC : Nat → Int32) (hsN : Int32) (hsX : Int32) (hsF : Nat → StT) (kpF : Nat → StT) (kpZ : Nat → Int32) (tx : Nat → Int32) (txl : Int32) (x : Int32) (hV : SVW D α w err pk pst pe tp tl dnums dbNames dpNames dfBoats dnB dnP nums bNames pNames fBoats nB nP day votes isOpen baskets lays recs fneed clos boatO seaO faultO daysO backB sailB plc car bnd bsk dyL rsn pastF pastN logF logN blB blC hsN hsX hsF kpF kpZ tx txl) : Met l yX11_value (ws_ yX11_value cX11_value 2 (some .int)) ({ frames := 6, cells := 0, slots := 0, locals := 129 }) (gPre D A [.ref (α (0)), .int x] w) (gQ D A (some (.int (f_X11_value nums nB nP day votes isOpen baskets recs fneed clos seaO backB plc bsk rsn logN blB blC x).1)) (fun w1 => SVW D α w1 err pk pst pe tp tl dnums dbNames dpNames dfBoats dnB dnP nums bNames pNames fBoats nB nP day votes isOpen baskets lays recs fneed clos boatO seaO faultO daysO backB sailB plc car bnd bsk dyL rsn pastF pastN logF logN ((f_X11_value nums nB nP day votes isOpen baskets recs fneed clos seaO backB plc bsk rsn logN blB blC x).2.1) ((f_X11_value nums nB nP day votes isOpen baskets recs fneed clos seaO backB plc bsk rsn logN blB blC x).2.2) hsN hsX hsF kpF kpZ tx txl ∧ Same w w1 0 234)) 0 0 A := by
  refine g_met [(0, .ref (α (0))), (1, .int x)] (plainFor_of_name (by decide)) (Nat.le_of_ble_eq_true rfl) rfl (fun pg en s mi ar below me co ls S hK hP hD hE hS hr hlk hnm hl => ?_)
  obtain ⟨hB0, hB1, hB2, hH, hKa, hKs, hB3, hB4⟩ := hV
  have hF : Same w w 0 234 := Same.rf
  refine lv_iload_n S.1 S.2.1 dX11_value_0 rfl (lv_at hl 1 rfl) ?_
  by_cases k1_0 : x = 0
  · refine lv_tableIn (tgt := 84) S.1 S.2.1 dX11_value_1 (by rw [k1_0]; decide) (by rw [k1_0]; decide) (by rw [k1_0]; rfl) (by decide) ?_
    refine lv_aload_n S.1 S.2.1 dX11_value_84 rfl (lv_at hl 0 rfl) ?_
    refine g_get (v := .ref (α (15))) S hK hP (hB0 0 _ rfl) rfl inX11 4 (by decide) qw362 rfl dX11_value_85 ?_
    refine g_get (v := .int day) S hK hP (hB2 6 _ rfl) rfl inX8 4 (by decide) qw196 rfl dX11_value_88 ?_
    have hf : (f_X11_value nums nB nP day votes isOpen baskets recs fneed clos seaO backB plc bsk rsn logN blB blC x) = (day, blB, blC) := if_pos k1_0
    exact g_iret S hr hlk hP hD hS (by rw [hf] <;> rfl) (by rw [hf]; (try dsimp only); exact ⟨⟨hB0, hB1, hB2, hH, hKa, hKs, hB3, hB4⟩, hF⟩) dX11_value_91
  by_cases k1_1 : x = 1
  · refine lv_tableIn (tgt := 92) S.1 S.2.1 dX11_value_1 (by rw [k1_1]; decide) (by rw [k1_1]; decide) (by rw [k1_1]; rfl) (by decide) ?_
    refine lv_aload_n S.1 S.2.1 dX11_value_92 rfl (lv_at hl 0 rfl) ?_
    refine g_get (v := .ref (α (9))) S hK hP (hB0 0 _ rfl) rfl inX11 2 (by decide) qw360 rfl dX11_value_93 ?_
    refine lv_aload_n S.1 S.2.1 dX11_value_96 rfl (lv_at hl 0 rfl) ?_
    refine g_get (v := .ref (α (15))) S hK hP (hB0 0 _ rfl) rfl inX11 4 (by decide) qw362 rfl dX11_value_97 ?_
    refine g_get (v := .int day) S hK hP (hB2 6 _ rfl) rfl inX8 4 (by decide) qw196 rfl dX11_value_100 ?_
    refine g_aftR0 (st1 := [.int (f_X10_seasonOn nums day)]) (g_V (As := [.int day]) (rest := []) S mi_X10_seasonOn qw729 (c_X10_seasonOn l D A w α (9) nums bNames pNames fBoats nB nP day votes isOpen baskets lays recs fneed clos boatO seaO faultO daysO backB sailB plc car bnd bsk dyL rsn pastF pastN logF logN blB blC day hB2) hK hP hD hE hS (hB2 0 _ rfl) rfl rfl rfl hl.1 (Nat.le_of_ble_eq_true rfl) rfl rfl ⟨(Nat.le_of_ble_eq_true rfl), (Nat.le_of_ble_eq_true rfl)⟩ ⟨(Nat.le_of_ble_eq_true rfl), (Nat.le_of_ble_eq_true rfl)⟩ dX11_value_103) hS rfl (fun locs hS => ?_)
    have hf : (f_X11_value nums nB nP day votes isOpen baskets recs fneed clos seaO backB plc bsk rsn logN blB blC x) = ((f_X10_seasonOn nums day), blB, blC) := (if_neg k1_0).trans (if_pos k1_1)
    exact g_iret S hr hlk hP hD hS (by rw [hf] <;> rfl) (by rw [hf]; (try dsimp only); exact ⟨⟨hB0, hB1, hB2, hH, hKa, hKs, hB3, hB4⟩, hF⟩) dX11_value_106
  by_cases k1_2 : x = 2
  · refine lv_tableIn (tgt := 107) S.1 S.2.1 dX11_value_1 (by rw [k1_2]; decide) (by rw [k1_2]; decide) (by rw [k1_2]; rfl) (by decide) ?_
    refine lv_aload_n S.1 S.2.1 dX11_value_107 rfl (lv_at hl 0 rfl) ?_
    refine g_get (v := .ref (α (10))) S hK hP (hB0 0 _ rfl) rfl inX11 3 (by decide) qw361 rfl dX11_value_108 ?_
    refine g_aftR0 (st1 := [.int nP]) (g_V (As := []) (rest := []) S mi_X7_people qw471 (c_X7_people l D A w α (10) nums bNames pNames fBoats nB nP (hB2.sub 1 rfl)) hK hP hD hE hS (hB2 1 _ rfl) rfl rfl rfl hl.1 (Nat.le_of_ble_eq_true rfl) rfl rfl ⟨(Nat.le_of_ble_eq_true rfl), (Nat.le_of_ble_eq_true rfl)⟩ ⟨(Nat.le_of_ble_eq_true rfl), (Nat.le_of_ble_eq_true rfl)⟩ dX11_value_111) hS rfl (fun locs hS => ?_)
    have hf : (f_X11_value nums nB nP day votes isOpen baskets recs fneed clos seaO backB plc bsk rsn logN blB blC x) = (nP, blB, blC) := (if_neg k1_0).trans ((if_neg k1_1).trans (if_pos k1_2))
    exact g_iret S hr hlk hP hD hS (by rw [hf] <;> rfl) (by rw [hf]; (try dsimp only); exact ⟨⟨hB0, hB1, hB2, hH, hKa, hKs, hB3, hB4⟩, hF⟩) dX11_value_114
  by_cases k1_3 : x = 3
  · refine lv_tableIn (tgt := 115) S.1 S.2.1 dX11_value_1 (by rw [k1_3]; decide) (by rw [k1_3]; decide) (by rw [k1_3]; rfl) (by decide) ?_
    refine lv_aload_n S.1 S.2.1 dX11_value_115 rfl (lv_at hl 0 rfl) ?_
    refine g_get (v := .ref (α (10))) S hK hP (hB0 0 _ rfl) rfl inX11 3 (by decide) qw361 rfl dX11_value_116 ?_
    refine g_aftR0 (st1 := [.int nB]) (g_V (As := []) (rest := []) S mi_X7_boats qw738 (c_X7_boats l D A w α (10) nums bNames pNames fBoats nB nP (hB2.sub 1 rfl)) hK hP hD hE hS (hB2 1 _ rfl) rfl rfl rfl hl.1 (Nat.le_of_ble_eq_true rfl) rfl rfl ⟨(Nat.le_of_ble_eq_true rfl), (Nat.le_of_ble_eq_true rfl)⟩ ⟨(Nat.le_of_ble_eq_true rfl), (Nat.le_of_ble_eq_true rfl)⟩ dX11_value_119) hS rfl (fun locs hS => ?_)
    have hf : (f_X11_value nums nB nP day votes isOpen baskets recs fneed clos seaO backB plc bsk rsn logN blB blC x) = (nB, blB, blC) := (if_neg k1_0).trans ((if_neg k1_1).trans ((if_neg k1_2).trans (if_pos k1_3)))
    exact g_iret S hr hlk hP hD hS (by rw [hf] <;> rfl) (by rw [hf]; (try dsimp only); exact ⟨⟨hB0, hB1, hB2, hH, hKa, hKs, hB3, hB4⟩, hF⟩) dX11_value_122
  by_cases k1_4 : x = 4
  · refine lv_tableIn (tgt := 123) S.1 S.2.1 dX11_value_1 (by rw [k1_4]; decide) (by rw [k1_4]; decide) (by rw [k1_4]; rfl) (by decide) ?_
    refine lv_aload_n S.1 S.2.1 dX11_value_123 rfl (lv_at hl 0 rfl) ?_
    refine g_get (v := .ref (α (15))) S hK hP (hB0 0 _ rfl) rfl inX11 4 (by decide) qw362 rfl dX11_value_124 ?_
    refine g_get (v := .ref (α (16))) S hK hP (hB2 6 _ rfl) rfl inX8 0 (by decide) qw183 rfl dX11_value_127 ?_
    refine g_aftR0 (st1 := [.int (f_X2_boatsOut backB)]) (g_V (As := []) (rest := []) S mi_X2_boatsOut qw742 (c_X2_boatsOut l D A w α (16) boatO seaO faultO daysO backB sailB (hB2.sub 7 rfl)) hK hP hD hE hS (hB2 7 _ rfl) rfl rfl rfl hl.1 (Nat.le_of_ble_eq_true rfl) rfl rfl ⟨(Nat.le_of_ble_eq_true rfl), (Nat.le_of_ble_eq_true rfl)⟩ ⟨(Nat.le_of_ble_eq_true rfl), (Nat.le_of_ble_eq_true rfl)⟩ dX11_value_130) hS rfl (fun locs hS => ?_)
    have hf : (f_X11_value nums nB nP day votes isOpen baskets recs fneed clos seaO backB plc bsk rsn logN blB blC x) = ((f_X2_boatsOut backB), blB, blC) := (if_neg k1_0).trans ((if_neg k1_1).trans ((if_neg k1_2).trans ((if_neg k1_3).trans (if_pos k1_4))))
    exact g_iret S hr hlk hP hD hS (by rw [hf] <;> rfl) (by rw [hf]; (try dsimp only); exact ⟨⟨hB0, hB1, hB2, hH, hKa, hKs, hB3, hB4⟩, hF⟩) dX11_value_133
  by_cases k1_5 : x = 5
  · refine lv_tableIn (tgt := 134) S.1 S.2.1 dX11_value_1 (by rw [k1_5]; decide) (by rw [k1_5]; decide) (by rw [k1_5]; rfl) (by decide) ?_
    refine lv_aload_n S.1 S.2.1 dX11_value_134 rfl (lv_at hl 0 rfl) ?_
    refine g_get (v := .ref (α (15))) S hK hP (hB0 0 _ rfl) rfl inX11 4 (by decide) qw362 rfl dX11_value_135 ?_
    refine g_get (v := .ref (α (16))) S hK hP (hB2 6 _ rfl) rfl inX8 0 (by decide) qw183 rfl dX11_value_138 ?_
    refine g_aftR0 (st1 := [.int (f_X2_peopleAtSea seaO)]) (g_V (As := []) (rest := []) S mi_X2_peopleAtSea qw750 (c_X2_peopleAtSea l D A w α (16) boatO seaO faultO daysO backB sailB (hB2.sub 7 rfl)) hK hP hD hE hS (hB2 7 _ rfl) rfl rfl rfl hl.1 (Nat.le_of_ble_eq_true rfl) rfl rfl ⟨(Nat.le_of_ble_eq_true rfl), (Nat.le_of_ble_eq_true rfl)⟩ ⟨(Nat.le_of_ble_eq_true rfl), (Nat.le_of_ble_eq_true rfl)⟩ dX11_value_141) hS rfl (fun locs hS => ?_)
    have hf : (f_X11_value nums nB nP day votes isOpen baskets recs fneed clos seaO backB plc bsk rsn logN blB blC x) = ((f_X2_peopleAtSea seaO), blB, blC) := (if_neg k1_0).trans ((if_neg k1_1).trans ((if_neg k1_2).trans ((if_neg k1_3).trans ((if_neg k1_4).trans (if_pos k1_5)))))
    exact g_iret S hr hlk hP hD hS (by rw [hf] <;> rfl) (by rw [hf]; (try dsimp only); exact ⟨⟨hB0, hB1, hB2, hH, hKa, hKs, hB3, hB4⟩, hF⟩) dX11_value_144
  by_cases k1_6 : x = 6
  · refine lv_tableIn (tgt := 145) S.1 S.2.1 dX11_value_1 (by rw [k1_6]; decide) (by rw [k1_6]; decide) (by rw [k1_6]; rfl) (by decide) ?_
    refine lv_aload_n S.1 S.2.1 dX11_value_145 rfl (lv_at hl 0 rfl) ?_
    refine g_get (v := .ref (α (9))) S hK hP (hB0 0 _ rfl) rfl inX11 2 (by decide) qw360 rfl dX11_value_146 ?_
    refine g_aftR0 (st1 := [.int (f_X10_needOfVote nums nP day votes isOpen fneed backB)]) (g_V (As := []) (rest := []) S mi_X10_needOfVote qw755 (c_X10_needOfVote l D A w α (9) nums bNames pNames fBoats nB nP day votes isOpen baskets lays recs fneed clos boatO seaO faultO daysO backB sailB plc car bnd bsk dyL rsn pastF pastN logF logN blB blC hB2) hK hP hD hE hS (hB2 0 _ rfl) rfl rfl rfl hl.1 (Nat.le_of_ble_eq_true rfl) rfl rfl ⟨(Nat.le_of_ble_eq_true rfl), (Nat.le_of_ble_eq_true rfl)⟩ ⟨(Nat.le_of_ble_eq_true rfl), (Nat.le_of_ble_eq_true rfl)⟩ dX11_value_149) hS rfl (fun locs hS => ?_)
    have hf : (f_X11_value nums nB nP day votes isOpen baskets recs fneed clos seaO backB plc bsk rsn logN blB blC x) = ((f_X10_needOfVote nums nP day votes isOpen fneed backB), blB, blC) := (if_neg k1_0).trans ((if_neg k1_1).trans ((if_neg k1_2).trans ((if_neg k1_3).trans ((if_neg k1_4).trans ((if_neg k1_5).trans (if_pos k1_6))))))
    exact g_iret S hr hlk hP hD hS (by rw [hf] <;> rfl) (by rw [hf]; (try dsimp only); exact ⟨⟨hB0, hB1, hB2, hH, hKa, hKs, hB3, hB4⟩, hF⟩) dX11_value_152
  by_cases k1_7 : x = 7
  · refine lv_tableIn (tgt := 153) S.1 S.2.1 dX11_value_1 (by rw [k1_7]; decide) (by rw [k1_7]; decide) (by rw [k1_7]; rfl) (by decide) ?_
    refine lv_aload_n S.1 S.2.1 dX11_value_153 rfl (lv_at hl 0 rfl) ?_
    refine g_get (v := .ref (α (15))) S hK hP (hB0 0 _ rfl) rfl inX11 4 (by decide) qw362 rfl dX11_value_154 ?_
    refine g_get (v := .ref (α (23))) S hK hP (hB2 6 _ rfl) rfl inX8 1 (by decide) qw187 rfl dX11_value_157 ?_
    refine g_aftR0 (st1 := [.int (f_X9_turnout plc)]) (g_V (As := []) (rest := []) S mi_X9_turnout qw767 (c_X9_turnout l D A w α (23) plc car bnd bsk dyL rsn (hB2.sub 14 rfl)) hK hP hD hE hS (hB2 14 _ rfl) rfl rfl rfl hl.1 (Nat.le_of_ble_eq_true rfl) rfl rfl ⟨(Nat.le_of_ble_eq_true rfl), (Nat.le_of_ble_eq_true rfl)⟩ ⟨(Nat.le_of_ble_eq_true rfl), (Nat.le_of_ble_eq_true rfl)⟩ dX11_value_160) hS rfl (fun locs hS => ?_)
    have hf : (f_X11_value nums nB nP day votes isOpen baskets recs fneed clos seaO backB plc bsk rsn logN blB blC x) = ((f_X9_turnout plc), blB, blC) := (if_neg k1_0).trans ((if_neg k1_1).trans ((if_neg k1_2).trans ((if_neg k1_3).trans ((if_neg k1_4).trans ((if_neg k1_5).trans ((if_neg k1_6).trans (if_pos k1_7)))))))
    exact g_iret S hr hlk hP hD hS (by rw [hf] <;> rfl) (by rw [hf]; (try dsimp only); exact ⟨⟨hB0, hB1, hB2, hH, hKa, hKs, hB3, hB4⟩, hF⟩) dX11_value_163
  by_cases k1_8 : x = 8
  · refine lv_tableIn (tgt := 164) S.1 S.2.1 dX11_value_1 (by rw [k1_8]; decide) (by rw [k1_8]; decide) (by rw [k1_8]; rfl) (by decide) ?_
    refine lv_aload_n S.1 S.2.1 dX11_value_164 rfl (lv_at hl 0 rfl) ?_
    refine g_get (v := .ref (α (9))) S hK hP (hB0 0 _ rfl) rfl inX11 2 (by decide) qw360 rfl dX11_value_165 ?_
    refine g_aftR0 (st1 := [.int (f_X10_stateOfVote nums day votes isOpen clos)]) (g_V (As := []) (rest := []) S mi_X10_stateOfVote qw775 (c_X10_stateOfVote l D A w α (9) nums bNames pNames fBoats nB nP day votes isOpen baskets lays recs fneed clos boatO seaO faultO daysO backB sailB plc car bnd bsk dyL rsn pastF pastN logF logN blB blC hB2) hK hP hD hE hS (hB2 0 _ rfl) rfl rfl rfl hl.1 (Nat.le_of_ble_eq_true rfl) rfl rfl ⟨(Nat.le_of_ble_eq_true rfl), (Nat.le_of_ble_eq_true rfl)⟩ ⟨(Nat.le_of_ble_eq_true rfl), (Nat.le_of_ble_eq_true rfl)⟩ dX11_value_168) hS rfl (fun locs hS => ?_)
    have hf : (f_X11_value nums nB nP day votes isOpen baskets recs fneed clos seaO backB plc bsk rsn logN blB blC x) = ((f_X10_stateOfVote nums day votes isOpen clos), blB, blC) := (if_neg k1_0).trans ((if_neg k1_1).trans ((if_neg k1_2).trans ((if_neg k1_3).trans ((if_neg k1_4).trans ((if_neg k1_5).trans ((if_neg k1_6).trans ((if_neg k1_7).trans (if_pos k1_8))))))))
    exact g_iret S hr hlk hP hD hS (by rw [hf] <;> rfl) (by rw [hf]; (try dsimp only); exact ⟨⟨hB0, hB1, hB2, hH, hKa, hKs, hB3, hB4⟩, hF⟩) dX11_value_171
  by_cases k1_9 : x = 9
  · refine lv_tableIn (tgt := 172) S.1 S.2.1 dX11_value_1 (by rw [k1_9]; decide) (by rw [k1_9]; decide) (by rw [k1_9]; rfl) (by decide) ?_
    refine lv_aload_n S.1 S.2.1 dX11_value_172 rfl (lv_at hl 0 rfl) ?_
    refine g_get (v := .ref (α (15))) S hK hP (hB0 0 _ rfl) rfl inX11 4 (by decide) qw362 rfl dX11_value_173 ?_
    refine g_get (v := .int baskets) S hK hP (hB2 6 _ rfl) rfl inX8 7 (by decide) qw203 rfl dX11_value_176 ?_
    have hf : (f_X11_value nums nB nP day votes isOpen baskets recs fneed clos seaO backB plc bsk rsn logN blB blC x) = (baskets, blB, blC) := (if_neg k1_0).trans ((if_neg k1_1).trans ((if_neg k1_2).trans ((if_neg k1_3).trans ((if_neg k1_4).trans ((if_neg k1_5).trans ((if_neg k1_6).trans ((if_neg k1_7).trans ((if_neg k1_8).trans (if_pos k1_9)))))))))
    exact g_iret S hr hlk hP hD hS (by rw [hf] <;> rfl) (by rw [hf]; (try dsimp only); exact ⟨⟨hB0, hB1, hB2, hH, hKa, hKs, hB3, hB4⟩, hF⟩) dX11_value_179
  by_cases k1_10 : x = 10
  · refine lv_tableIn (tgt := 180) S.1 S.2.1 dX11_value_1 (by rw [k1_10]; decide) (by rw [k1_10]; decide) (by rw [k1_10]; rfl) (by decide) ?_
    refine lv_aload_n S.1 S.2.1 dX11_value_180 rfl (lv_at hl 0 rfl) ?_
    refine g_get (v := .ref (α (9))) S hK hP (hB0 0 _ rfl) rfl inX11 2 (by decide) qw360 rfl dX11_value_181 ?_
    refine g_aftR0 (st1 := [.int (b2i (tb isOpen))]) (g_V (As := []) (rest := []) S mi_X10_isVoteOpen qw393 (c_X10_isVoteOpen l D A w α (9) nums bNames pNames fBoats nB nP day votes isOpen baskets lays recs fneed clos boatO seaO faultO daysO backB sailB plc car bnd bsk dyL rsn pastF pastN logF logN blB blC hB2) hK hP hD hE hS (hB2 0 _ rfl) rfl rfl rfl hl.1 (Nat.le_of_ble_eq_true rfl) rfl rfl ⟨(Nat.le_of_ble_eq_true rfl), (Nat.le_of_ble_eq_true rfl)⟩ ⟨(Nat.le_of_ble_eq_true rfl), (Nat.le_of_ble_eq_true rfl)⟩ dX11_value_184) hS rfl (fun locs hS => ?_)
    refine g_bifeq (b := (tb isOpen)) (tgt := 195) S dX11_value_187 (by decide) (fun (c2 : (tb isOpen) = false) => ?_) (fun (c2 : (tb isOpen) = true) => ?_)
    · refine lv_aload_n S.1 S.2.1 dX11_value_195 rfl (lv_at hl 0 rfl) ?_
      refine g_get (v := .ref (α (9))) S hK hP (hB0 0 _ rfl) rfl inX11 2 (by decide) qw360 rfl dX11_value_196 ?_
      have hNm : (f_X10_resultNow nums nP day votes isOpen fneed backB plc bsk blB blC) = (S_X11_value_199 nums nP day votes isOpen fneed backB plc bsk blB blC) := rfl
      have hCon := (c_X10_resultNow l D A w α (9) nums bNames pNames fBoats nB nP day votes isOpen baskets lays recs fneed clos boatO seaO faultO daysO backB sailB plc car bnd bsk dyL rsn pastF pastN logF logN blB blC hB2)
      rw [hNm] at hCon
      refine g_aft0 (st1 := [.int ((S_X11_value_199 nums nP day votes isOpen fneed backB plc bsk blB blC).1)]) (g_V (As := []) (rest := []) S mi_X10_resultNow qw779 hCon hK hP hD hE hS (hB2 0 _ rfl) rfl rfl rfl hl.1 (Nat.le_of_ble_eq_true rfl) rfl rfl ⟨(Nat.le_of_ble_eq_true rfl), (Nat.le_of_ble_eq_true rfl)⟩ ⟨(Nat.le_of_ble_eq_true rfl), (Nat.le_of_ble_eq_true rfl)⟩ dX11_value_199) hS rfl (fun w1 H locs hQ hP hD hS => ?_)
      have hF := Same.call hF 9 hQ.2 (Nat.le_of_ble_eq_true rfl)
      have hB2 : Blk w1 9 (cVil D α 9 nums bNames pNames fBoats nB nP day votes isOpen baskets lays recs fneed clos boatO seaO faultO daysO backB sailB plc car bnd bsk dyL rsn pastF pastN logF logN ((S_X11_value_199 nums nP day votes isOpen fneed backB plc bsk blB blC).2.1) ((S_X11_value_199 nums nP day votes isOpen fneed backB plc bsk blB blC).2.2)) := hQ.1
      have hB0 := hB0.other hQ.2 (Or.inl (Nat.le_of_ble_eq_true rfl))
      have hB1 := hB1.other hQ.2 (Or.inl (Nat.le_of_ble_eq_true rfl))
      have hB3 := hB3.other hQ.2 (Or.inr (Nat.le_of_ble_eq_true rfl))
      have hB4 := hB4.other hQ.2 (Or.inr (Nat.le_of_ble_eq_true rfl))
      have hH := hH.other hQ.2 (Or.inr (Nat.le_of_ble_eq_true rfl))
      have hKa := ((hQ.2).2 191 (Or.inr (Nat.le_of_ble_eq_true rfl))).trans hKa
      have hKs := hKs.other hQ.2 (Or.inr (Nat.le_of_ble_eq_true rfl))
      have hf : (f_X11_value nums nB nP day votes isOpen baskets recs fneed clos seaO backB plc bsk rsn logN blB blC x) = ((S_X11_value_199 nums nP day votes isOpen fneed backB plc bsk blB blC).1, (S_X11_value_199 nums nP day votes isOpen fneed backB plc bsk blB blC).2.1, (S_X11_value_199 nums nP day votes isOpen fneed backB plc bsk blB blC).2.2) := (if_neg k1_0).trans ((if_neg k1_1).trans ((if_neg k1_2).trans ((if_neg k1_3).trans ((if_neg k1_4).trans ((if_neg k1_5).trans ((if_neg k1_6).trans ((if_neg k1_7).trans ((if_neg k1_8).trans ((if_neg k1_9).trans ((if_pos k1_10).trans (cd_f c2)))))))))))
      exact g_iret S hr hlk hP hD hS (by rw [hf] <;> rfl) (by rw [hf]; (try dsimp only); exact ⟨⟨hB0, hB1, hB2, hH, hKa, hKs, hB3, hB4⟩, hF⟩) dX11_value_202
    · refine lv_bipush (v := (-2)) S.1 S.2.1 dX11_value_190 (by decide) ?_
      refine lv_goto (tgt := 202) S.1 S.2.1 dX11_value_192 (by decide) ?_
      have hf : (f_X11_value nums nB nP day votes isOpen baskets recs fneed clos seaO backB plc bsk rsn logN blB blC x) = ((-2), blB, blC) := (if_neg k1_0).trans ((if_neg k1_1).trans ((if_neg k1_2).trans ((if_neg k1_3).trans ((if_neg k1_4).trans ((if_neg k1_5).trans ((if_neg k1_6).trans ((if_neg k1_7).trans ((if_neg k1_8).trans ((if_neg k1_9).trans ((if_pos k1_10).trans (cd_t c2)))))))))))
      exact g_iret S hr hlk hP hD hS (by rw [hf] <;> rfl) (by rw [hf]; (try dsimp only); exact ⟨⟨hB0, hB1, hB2, hH, hKa, hKs, hB3, hB4⟩, hF⟩) dX11_value_202
  by_cases k1_11 : x = 11
  · refine lv_tableIn (tgt := 203) S.1 S.2.1 dX11_value_1 (by rw [k1_11]; decide) (by rw [k1_11]; decide) (by rw [k1_11]; rfl) (by decide) ?_
    refine lv_aload_n S.1 S.2.1 dX11_value_203 rfl (lv_at hl 0 rfl) ?_
    refine g_get (v := .ref (α (15))) S hK hP (hB0 0 _ rfl) rfl inX11 4 (by decide) qw362 rfl dX11_value_204 ?_
    refine g_get (v := .ref (α (23))) S hK hP (hB2 6 _ rfl) rfl inX8 1 (by decide) qw187 rfl dX11_value_207 ?_
    refine g_aftR0 (st1 := [.int (f_X9_struckOnes plc)]) (g_V (As := []) (rest := []) S mi_X9_struckOnes qw812 (c_X9_struckOnes l D A w α (23) plc car bnd bsk dyL rsn (hB2.sub 14 rfl)) hK hP hD hE hS (hB2 14 _ rfl) rfl rfl rfl hl.1 (Nat.le_of_ble_eq_true rfl) rfl rfl ⟨(Nat.le_of_ble_eq_true rfl), (Nat.le_of_ble_eq_true rfl)⟩ ⟨(Nat.le_of_ble_eq_true rfl), (Nat.le_of_ble_eq_true rfl)⟩ dX11_value_210) hS rfl (fun locs hS => ?_)
    have hf : (f_X11_value nums nB nP day votes isOpen baskets recs fneed clos seaO backB plc bsk rsn logN blB blC x) = ((f_X9_struckOnes plc), blB, blC) := (if_neg k1_0).trans ((if_neg k1_1).trans ((if_neg k1_2).trans ((if_neg k1_3).trans ((if_neg k1_4).trans ((if_neg k1_5).trans ((if_neg k1_6).trans ((if_neg k1_7).trans ((if_neg k1_8).trans ((if_neg k1_9).trans ((if_neg k1_10).trans (if_pos k1_11)))))))))))
    exact g_iret S hr hlk hP hD hS (by rw [hf] <;> rfl) (by rw [hf]; (try dsimp only); exact ⟨⟨hB0, hB1, hB2, hH, hKa, hKs, hB3, hB4⟩, hF⟩) dX11_value_213
  by_cases k1_12 : x = 12
  · refine lv_tableIn (tgt := 214) S.1 S.2.1 dX11_value_1 (by rw [k1_12]; decide) (by rw [k1_12]; decide) (by rw [k1_12]; rfl) (by decide) ?_
    refine lv_aload_n S.1 S.2.1 dX11_value_214 rfl (lv_at hl 0 rfl) ?_
    refine g_get (v := .ref (α (15))) S hK hP (hB0 0 _ rfl) rfl inX11 4 (by decide) qw362 rfl dX11_value_215 ?_
    refine g_get (v := .int recs) S hK hP (hB2 6 _ rfl) rfl inX8 9 (by decide) qw209 rfl dX11_value_218 ?_
    have hf : (f_X11_value nums nB nP day votes isOpen baskets recs fneed clos seaO backB plc bsk rsn logN blB blC x) = (recs, blB, blC) := (if_neg k1_0).trans ((if_neg k1_1).trans ((if_neg k1_2).trans ((if_neg k1_3).trans ((if_neg k1_4).trans ((if_neg k1_5).trans ((if_neg k1_6).trans ((if_neg k1_7).trans ((if_neg k1_8).trans ((if_neg k1_9).trans ((if_neg k1_10).trans ((if_neg k1_11).trans (if_pos k1_12))))))))))))
    exact g_iret S hr hlk hP hD hS (by rw [hf] <;> rfl) (by rw [hf]; (try dsimp only); exact ⟨⟨hB0, hB1, hB2, hH, hKa, hKs, hB3, hB4⟩, hF⟩) dX11_value_221
  by_cases k1_13 : x = 13
  · refine lv_tableIn (tgt := 222) S.1 S.2.1 dX11_value_1 (by rw [k1_13]; decide) (by rw [k1_13]; decide) (by rw [k1_13]; rfl) (by decide) ?_
    refine lv_aload_n S.1 S.2.1 dX11_value_222 rfl (lv_at hl 0 rfl) ?_
    refine g_get (v := .ref (α (15))) S hK hP (hB0 0 _ rfl) rfl inX11 4 (by decide) qw362 rfl dX11_value_223 ?_
    refine g_get (v := .int votes) S hK hP (hB2 6 _ rfl) rfl inX8 5 (by decide) qw199 rfl dX11_value_226 ?_
    have hf : (f_X11_value nums nB nP day votes isOpen baskets recs fneed clos seaO backB plc bsk rsn logN blB blC x) = (votes, blB, blC) := (if_neg k1_0).trans ((if_neg k1_1).trans ((if_neg k1_2).trans ((if_neg k1_3).trans ((if_neg k1_4).trans ((if_neg k1_5).trans ((if_neg k1_6).trans ((if_neg k1_7).trans ((if_neg k1_8).trans ((if_neg k1_9).trans ((if_neg k1_10).trans ((if_neg k1_11).trans ((if_neg k1_12).trans (if_pos k1_13)))))))))))))
    exact g_iret S hr hlk hP hD hS (by rw [hf] <;> rfl) (by rw [hf]; (try dsimp only); exact ⟨⟨hB0, hB1, hB2, hH, hKa, hKs, hB3, hB4⟩, hF⟩) dX11_value_229
  by_cases k1_14 : x = 14
  · refine lv_tableIn (tgt := 230) S.1 S.2.1 dX11_value_1 (by rw [k1_14]; decide) (by rw [k1_14]; decide) (by rw [k1_14]; rfl) (by decide) ?_
    refine lv_aload_n S.1 S.2.1 dX11_value_230 rfl (lv_at hl 0 rfl) ?_
    refine g_get (v := .ref (α (15))) S hK hP (hB0 0 _ rfl) rfl inX11 4 (by decide) qw362 rfl dX11_value_231 ?_
    refine g_get (v := .ref (α (32))) S hK hP (hB2 6 _ rfl) rfl inX8 3 (by decide) qw193 rfl dX11_value_234 ?_
    refine g_aftR0 (st1 := [.int (f_X5_size 30 logN)]) (g_V (As := []) (rest := []) S mi_X5_size qw816 (c_X5_size l D A w α (32) 30 logF logN (hB2.sub 23 rfl)) hK hP hD hE hS (hB2 23 _ rfl) rfl rfl rfl hl.1 (Nat.le_of_ble_eq_true rfl) rfl rfl ⟨(Nat.le_of_ble_eq_true rfl), (Nat.le_of_ble_eq_true rfl)⟩ ⟨(Nat.le_of_ble_eq_true rfl), (Nat.le_of_ble_eq_true rfl)⟩ dX11_value_237) hS rfl (fun locs hS => ?_)
    have hf : (f_X11_value nums nB nP day votes isOpen baskets recs fneed clos seaO backB plc bsk rsn logN blB blC x) = ((f_X5_size 30 logN), blB, blC) := (if_neg k1_0).trans ((if_neg k1_1).trans ((if_neg k1_2).trans ((if_neg k1_3).trans ((if_neg k1_4).trans ((if_neg k1_5).trans ((if_neg k1_6).trans ((if_neg k1_7).trans ((if_neg k1_8).trans ((if_neg k1_9).trans ((if_neg k1_10).trans ((if_neg k1_11).trans ((if_neg k1_12).trans ((if_neg k1_13).trans (if_pos k1_14))))))))))))))
    exact g_iret S hr hlk hP hD hS (by rw [hf] <;> rfl) (by rw [hf]; (try dsimp only); exact ⟨⟨hB0, hB1, hB2, hH, hKa, hKs, hB3, hB4⟩, hF⟩) dX11_value_240
  by_cases k1_15 : x = 15
  · refine lv_tableIn (tgt := 241) S.1 S.2.1 dX11_value_1 (by rw [k1_15]; decide) (by rw [k1_15]; decide) (by rw [k1_15]; rfl) (by decide) ?_
    refine lv_aload_n S.1 S.2.1 dX11_value_241 rfl (lv_at hl 0 rfl) ?_
    refine g_get (v := .ref (α (10))) S hK hP (hB0 0 _ rfl) rfl inX11 3 (by decide) qw361 rfl dX11_value_242 ?_
    refine g_aftR0 (st1 := [.int nP]) (g_V (As := []) (rest := []) S mi_X7_people qw471 (c_X7_people l D A w α (10) nums bNames pNames fBoats nB nP (hB2.sub 1 rfl)) hK hP hD hE hS (hB2 1 _ rfl) rfl rfl rfl hl.1 (Nat.le_of_ble_eq_true rfl) rfl rfl ⟨(Nat.le_of_ble_eq_true rfl), (Nat.le_of_ble_eq_true rfl)⟩ ⟨(Nat.le_of_ble_eq_true rfl), (Nat.le_of_ble_eq_true rfl)⟩ dX11_value_245) hS rfl (fun locs hS => ?_)
    refine lv_aload_n S.1 S.2.1 dX11_value_248 rfl (lv_at hl 0 rfl) ?_
    refine g_get (v := .ref (α (15))) S hK hP (hB0 0 _ rfl) rfl inX11 4 (by decide) qw362 rfl dX11_value_249 ?_
    refine g_get (v := .ref (α (16))) S hK hP (hB2 6 _ rfl) rfl inX8 0 (by decide) qw183 rfl dX11_value_252 ?_
    refine g_aftR0 (st1 := [.int (f_X2_peopleAtSea seaO), .int nP]) (g_V (As := []) (rest := [.int nP]) S mi_X2_peopleAtSea qw750 (c_X2_peopleAtSea l D A w α (16) boatO seaO faultO daysO backB sailB (hB2.sub 7 rfl)) hK hP hD hE hS (hB2 7 _ rfl) rfl rfl rfl hl.1 (Nat.le_of_ble_eq_true rfl) rfl rfl ⟨(Nat.le_of_ble_eq_true rfl), (Nat.le_of_ble_eq_true rfl)⟩ ⟨(Nat.le_of_ble_eq_true rfl), (Nat.le_of_ble_eq_true rfl)⟩ dX11_value_255) hS rfl (fun locs hS => ?_)
    refine lv_isub S.1 S.2.1 dX11_value_258 ?_
    have hf : (f_X11_value nums nB nP day votes isOpen baskets recs fneed clos seaO backB plc bsk rsn logN blB blC x) = ((nP - (f_X2_peopleAtSea seaO)), blB, blC) := (if_neg k1_0).trans ((if_neg k1_1).trans ((if_neg k1_2).trans ((if_neg k1_3).trans ((if_neg k1_4).trans ((if_neg k1_5).trans ((if_neg k1_6).trans ((if_neg k1_7).trans ((if_neg k1_8).trans ((if_neg k1_9).trans ((if_neg k1_10).trans ((if_neg k1_11).trans ((if_neg k1_12).trans ((if_neg k1_13).trans ((if_neg k1_14).trans (if_pos k1_15)))))))))))))))
    exact g_iret S hr hlk hP hD hS (by rw [hf] <;> rfl) (by rw [hf]; (try dsimp only); exact ⟨⟨hB0, hB1, hB2, hH, hKa, hKs, hB3, hB4⟩, hF⟩) dX11_value_259
  by_cases k1_16 : x = 16
  · refine lv_tableIn (tgt := 260) S.1 S.2.1 dX11_value_1 (by rw [k1_16]; decide) (by rw [k1_16]; decide) (by rw [k1_16]; rfl) (by decide) ?_
    refine lv_aload_n S.1 S.2.1 dX11_value_260 rfl (lv_at hl 0 rfl) ?_
    refine g_get (v := .ref (α (15))) S hK hP (hB0 0 _ rfl) rfl inX11 4 (by decide) qw362 rfl dX11_value_261 ?_
    refine g_get (v := .ref (α (23))) S hK hP (hB2 6 _ rfl) rfl inX8 1 (by decide) qw187 rfl dX11_value_264 ?_
    refine g_aftR0 (st1 := [.int (f_X9_wrongMask plc rsn)]) (g_V (As := []) (rest := []) S mi_X9_wrongMask qw821 (c_X9_wrongMask l D A w α (23) plc car bnd bsk dyL rsn (hB2.sub 14 rfl)) hK hP hD hE hS (hB2 14 _ rfl) rfl rfl rfl hl.1 (Nat.le_of_ble_eq_true rfl) rfl rfl ⟨(Nat.le_of_ble_eq_true rfl), (Nat.le_of_ble_eq_true rfl)⟩ ⟨(Nat.le_of_ble_eq_true rfl), (Nat.le_of_ble_eq_true rfl)⟩ dX11_value_267) hS rfl (fun locs hS => ?_)
    refine g_aftR0 (st1 := [.int (f_J6_bitCount_0f7a4 (f_X9_wrongMask plc rsn))]) (g_St (As := [.int (f_X9_wrongMask plc rsn)]) (rest := []) S ms_J6_bitCount_0f7a4 qw504 (c_J6_bitCount_0f7a4 l D A w α (f_X9_wrongMask plc rsn)) hK hP hD hE hS rfl rfl hl.1 (Nat.le_of_ble_eq_true rfl) rfl rfl ⟨(Nat.le_of_ble_eq_true rfl), (Nat.le_of_ble_eq_true rfl)⟩ ⟨(Nat.le_of_ble_eq_true rfl), (Nat.le_of_ble_eq_true rfl)⟩ dX11_value_270) hS rfl (fun locs hS => ?_)
    have hf : (f_X11_value nums nB nP day votes isOpen baskets recs fneed clos seaO backB plc bsk rsn logN blB blC x) = ((f_J6_bitCount_0f7a4 (f_X9_wrongMask plc rsn)), blB, blC) := (if_neg k1_0).trans ((if_neg k1_1).trans ((if_neg k1_2).trans ((if_neg k1_3).trans ((if_neg k1_4).trans ((if_neg k1_5).trans ((if_neg k1_6).trans ((if_neg k1_7).trans ((if_neg k1_8).trans ((if_neg k1_9).trans ((if_neg k1_10).trans ((if_neg k1_11).trans ((if_neg k1_12).trans ((if_neg k1_13).trans ((if_neg k1_14).trans ((if_neg k1_15).trans (if_pos k1_16))))))))))))))))
    exact g_iret S hr hlk hP hD hS (by rw [hf] <;> rfl) (by rw [hf]; (try dsimp only); exact ⟨⟨hB0, hB1, hB2, hH, hKa, hKs, hB3, hB4⟩, hF⟩) dX11_value_273
  have hout : x.toInt < (0 : Int) ∨ (16 : Int) < x.toInt := sw_out (lo := 0) (n := 17) (by decide) (fun i hi => by match i, hi with | 0, _ => exact k1_0 | 1, _ => exact k1_1 | 2, _ => exact k1_2 | 3, _ => exact k1_3 | 4, _ => exact k1_4 | 5, _ => exact k1_5 | 6, _ => exact k1_6 | 7, _ => exact k1_7 | 8, _ => exact k1_8 | 9, _ => exact k1_9 | 10, _ => exact k1_10 | 11, _ => exact k1_11 | 12, _ => exact k1_12 | 13, _ => exact k1_13 | 14, _ => exact k1_14 | 15, _ => exact k1_15 | 16, _ => exact k1_16 | i + 17, h => exact absurd h (by omega))
  refine lv_tableOut (tgt := 274) S.1 S.2.1 dX11_value_1 hout (by decide) ?_
  refine lv_iconst (v := (-1)) S.1 S.2.1 dX11_value_274 (by decide) ?_
  have hf : (f_X11_value nums nB nP day votes isOpen baskets recs fneed clos seaO backB plc bsk rsn logN blB blC x) = ((-1), blB, blC) := (if_neg k1_0).trans ((if_neg k1_1).trans ((if_neg k1_2).trans ((if_neg k1_3).trans ((if_neg k1_4).trans ((if_neg k1_5).trans ((if_neg k1_6).trans ((if_neg k1_7).trans ((if_neg k1_8).trans ((if_neg k1_9).trans ((if_neg k1_10).trans ((if_neg k1_11).trans ((if_neg k1_12).trans ((if_neg k1_13).trans ((if_neg k1_14).trans ((if_neg k1_15).trans (if_neg k1_16))))))))))))))))
  exact g_iret S hr hlk hP hD hS (by rw [hf] <;> rfl) (by rw [hf]; (try dsimp only); exact ⟨⟨hB0, hB1, hB2, hH, hKa, hKs, hB3, hB4⟩, hF⟩) dX11_value_275
