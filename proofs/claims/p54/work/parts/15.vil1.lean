def f_X10_isVoteOpen (isOpen : Int32) : Bool := tb isOpen
set_option maxHeartbeats 4000000 in
set_option maxRecDepth 100000 in
theorem c_X10_isVoteOpen (l : Launch) (D : va_G) (A : Nat → Prop) (w : va_W) (α : Nat → Nat) (k : Nat) (nums : Nat → Int32) (bNames : Nat → Int32) (pNames : Nat → Int32) (fBoats : Nat → Int32) (nB : Int32) (nP : Int32) (day : Int32) (votes : Int32) (isOpen : Int32) (baskets : Int32) (lays : Int32) (recs : Int32) (fneed : Int32) (clos : Int32) (boatO : Nat → Int32) (seaO : Nat → Int32) (faultO : Nat → Int32) (daysO : Nat → Int32) (backB : Nat → Int32) (sailB : Nat → Int32) (plc : Nat → Int32) (car : Nat → Int32) (bnd : Nat → Int32) (bsk : Nat → Int32) (dyL : Nat → Int32) (rsn : Nat → Int32) (pastF : Nat → Int32) (pastN : Int32) (logF : Nat → Int32) (logN : Int32) (blB : Nat → Int32) (blC : Nat → Int32) (hB0 : Blk w k (cVil D α k nums bNames pNames fBoats nB nP day votes isOpen baskets lays recs fneed clos boatO seaO faultO daysO backB sailB plc car bnd bsk dyL rsn pastF pastN logF logN blB blC)) : Met l yX10_isVoteOpen (ws_ yX10_isVoteOpen cX10_isVoteOpen 1 (some .boolean)) ({ frames := 0, cells := 0, slots := 0, locals := 0 }) (gPre D A [.ref (α (k))] w) (gR (some (.int (b2i (f_X10_isVoteOpen isOpen))))) 0 0 A := by
  refine g_met [(0, .ref (α (k)))] (plainFor_of_name (by decide)) (Nat.le_of_ble_eq_true rfl) rfl (fun pg en s mi ar below me co ls S hK hP hD hE hS hr hlk hnm hl => ?_)
  refine lv_aload_n S.1 S.2.1 dX10_isVoteOpen_0 rfl (lv_at hl 0 rfl) ?_
  refine g_get (v := .ref (α (k + 6))) S hK hP (hB0 0 _ rfl) rfl inX10 1 (by decide) qw254 rfl dX10_isVoteOpen_1 ?_
  refine g_get (v := .int (b2i (tb isOpen))) S hK hP (hB0 6 _ rfl) rfl inX8 6 (by decide) qw201 rfl dX10_isVoteOpen_4 ?_
  have hf : (f_X10_isVoteOpen isOpen) = tb isOpen := rfl
  exact g_zretR S hr hlk hS (b2i_nar _) (by rw [hf] <;> rfl) dX10_isVoteOpen_7
def f_X10_latestVote (votes : Int32) : Int32 := (votes - 1)
set_option maxHeartbeats 4000000 in
set_option maxRecDepth 100000 in
theorem c_X10_latestVote (l : Launch) (D : va_G) (A : Nat → Prop) (w : va_W) (α : Nat → Nat) (k : Nat) (nums : Nat → Int32) (bNames : Nat → Int32) (pNames : Nat → Int32) (fBoats : Nat → Int32) (nB : Int32) (nP : Int32) (day : Int32) (votes : Int32) (isOpen : Int32) (baskets : Int32) (lays : Int32) (recs : Int32) (fneed : Int32) (clos : Int32) (boatO : Nat → Int32) (seaO : Nat → Int32) (faultO : Nat → Int32) (daysO : Nat → Int32) (backB : Nat → Int32) (sailB : Nat → Int32) (plc : Nat → Int32) (car : Nat → Int32) (bnd : Nat → Int32) (bsk : Nat → Int32) (dyL : Nat → Int32) (rsn : Nat → Int32) (pastF : Nat → Int32) (pastN : Int32) (logF : Nat → Int32) (logN : Int32) (blB : Nat → Int32) (blC : Nat → Int32) (hB0 : Blk w k (cVil D α k nums bNames pNames fBoats nB nP day votes isOpen baskets lays recs fneed clos boatO seaO faultO daysO backB sailB plc car bnd bsk dyL rsn pastF pastN logF logN blB blC)) : Met l yX10_latestVote (ws_ yX10_latestVote cX10_latestVote 1 (some .int)) ({ frames := 0, cells := 0, slots := 0, locals := 0 }) (gPre D A [.ref (α (k))] w) (gR (some (.int (f_X10_latestVote votes)))) 0 0 A := by
  refine g_met [(0, .ref (α (k)))] (plainFor_of_name (by decide)) (Nat.le_of_ble_eq_true rfl) rfl (fun pg en s mi ar below me co ls S hK hP hD hE hS hr hlk hnm hl => ?_)
  refine lv_aload_n S.1 S.2.1 dX10_latestVote_0 rfl (lv_at hl 0 rfl) ?_
  refine g_get (v := .ref (α (k + 6))) S hK hP (hB0 0 _ rfl) rfl inX10 1 (by decide) qw254 rfl dX10_latestVote_1 ?_
  refine g_get (v := .int votes) S hK hP (hB0 6 _ rfl) rfl inX8 5 (by decide) qw198 rfl dX10_latestVote_4 ?_
  refine lv_iconst (v := 1) S.1 S.2.1 dX10_latestVote_7 (by decide) ?_
  refine lv_isub S.1 S.2.1 dX10_latestVote_8 ?_
  have hf : (f_X10_latestVote votes) = (votes - 1) := rfl
  exact g_iretR S hr hlk hS (by rw [hf] <;> rfl) dX10_latestVote_9
def f_X10_inLog (x : Int32) : Int32 := (if x = (-2) then (-1) else x)
set_option maxHeartbeats 4000000 in
set_option maxRecDepth 100000 in
theorem c_X10_inLog (l : Launch) (D : va_G) (A : Nat → Prop) (w : va_W) (α : Nat → Nat) (x : Int32) : Met l yX10_inLog (ws_ yX10_inLog cX10_inLog 1 (some .int)) ({ frames := 0, cells := 0, slots := 0, locals := 0 }) (gPre D A [.int x] w) (gR (some (.int (f_X10_inLog x)))) 0 0 A := by
  refine g_met [(0, .int x)] (plainFor_of_name (by decide)) (Nat.le_of_ble_eq_true rfl) rfl (fun pg en s mi ar below me co ls S hK hP hD hE hS hr hlk hnm hl => ?_)
  refine lv_iload_n S.1 S.2.1 dX10_inLog_0 rfl (lv_at hl 0 rfl) ?_
  refine lv_bipush (v := (-2)) S.1 S.2.1 dX10_inLog_1 (by decide) ?_
  refine lv_icmp_ne (tgt := 10) S.1 S.2.1 dX10_inLog_3 (by decide) (fun (c1 : ¬ x = (-2)) => ?_) (fun (c1 : x = (-2)) => ?_)
  · refine lv_iload_n S.1 S.2.1 dX10_inLog_10 rfl (lv_at hl 0 rfl) ?_
    have hf : (f_X10_inLog x) = x := if_neg c1
    exact g_iretR S hr hlk hS (by rw [hf] <;> rfl) dX10_inLog_11
  · refine lv_iconst (v := (-1)) S.1 S.2.1 dX10_inLog_6 (by decide) ?_
    refine lv_goto (tgt := 11) S.1 S.2.1 dX10_inLog_7 (by decide) ?_
    have hf : (f_X10_inLog x) = (-1) := if_pos c1
    exact g_iretR S hr hlk hS (by rw [hf] <;> rfl) dX10_inLog_11
def f_X10_seasonOn (nums : Nat → Int32) (d : Int32) : Int32 := (if 1 ≤ (f_X7_numberOf nums 0) then (f_J9_floorMod_7cf53 (d / (f_X7_numberOf nums 0)) 4) else 0)
set_option maxHeartbeats 4000000 in
set_option maxRecDepth 100000 in
theorem c_X10_seasonOn (l : Launch) (D : va_G) (A : Nat → Prop) (w : va_W) (α : Nat → Nat) (k : Nat) (nums : Nat → Int32) (bNames : Nat → Int32) (pNames : Nat → Int32) (fBoats : Nat → Int32) (nB : Int32) (nP : Int32) (day : Int32) (votes : Int32) (isOpen : Int32) (baskets : Int32) (lays : Int32) (recs : Int32) (fneed : Int32) (clos : Int32) (boatO : Nat → Int32) (seaO : Nat → Int32) (faultO : Nat → Int32) (daysO : Nat → Int32) (backB : Nat → Int32) (sailB : Nat → Int32) (plc : Nat → Int32) (car : Nat → Int32) (bnd : Nat → Int32) (bsk : Nat → Int32) (dyL : Nat → Int32) (rsn : Nat → Int32) (pastF : Nat → Int32) (pastN : Int32) (logF : Nat → Int32) (logN : Int32) (blB : Nat → Int32) (blC : Nat → Int32) (d : Int32) (hB0 : Blk w k (cVil D α k nums bNames pNames fBoats nB nP day votes isOpen baskets lays recs fneed clos boatO seaO faultO daysO backB sailB plc car bnd bsk dyL rsn pastF pastN logF logN blB blC)) : Met l yX10_seasonOn (ws_ yX10_seasonOn cX10_seasonOn 3 (some .int)) ({ frames := 2, cells := 0, slots := 0, locals := 43 }) (gPre D A [.ref (α (k)), .int d] w) (gR (some (.int (f_X10_seasonOn nums d)))) 0 0 A := by
  refine g_met [(0, .ref (α (k))), (1, .int d)] (plainFor_of_name (by decide)) (Nat.le_of_ble_eq_true rfl) rfl (fun pg en s mi ar below me co ls S hK hP hD hE hS hr hlk hnm hl => ?_)
  refine lv_aload_n S.1 S.2.1 dX10_seasonOn_0 rfl (lv_at hl 0 rfl) ?_
  refine g_get (v := .ref (α (k + 1))) S hK hP (hB0 0 _ rfl) rfl inX10 0 (by decide) qw252 rfl dX10_seasonOn_1 ?_
  refine lv_iconst (v := 0) S.1 S.2.1 dX10_seasonOn_4 (by decide) ?_
  refine g_aftR0 (st1 := [.int (f_X7_numberOf nums 0)]) (g_V (As := [.int 0]) (rest := []) S mi_X7_numberOf qw733 (c_X7_numberOf l D A w α (k + 1) nums bNames pNames fBoats nB nP 0 (hB0.sub 1 rfl)) hK hP hD hE hS (hB0 1 _ rfl) rfl rfl rfl hl.1 (Nat.le_of_ble_eq_true rfl) rfl rfl ⟨(Nat.le_of_ble_eq_true rfl), (Nat.le_of_ble_eq_true rfl)⟩ ⟨(Nat.le_of_ble_eq_true rfl), (Nat.le_of_ble_eq_true rfl)⟩ dX10_seasonOn_5) hS rfl (fun locs hS => ?_)
  refine lv_istore_n (lv' := [(2, .int (f_X7_numberOf nums 0)), (0, .ref (α (k))), (1, .int d)]) S.1 S.2.1 dX10_seasonOn_8 rfl hl (by decide) rfl (fun ls hl => ?_)
  refine lv_iload_n S.1 S.2.1 dX10_seasonOn_9 rfl (lv_at hl 0 rfl) ?_
  refine lv_iconst (v := 1) S.1 S.2.1 dX10_seasonOn_10 (by decide) ?_
  refine lv_icmp_ge (tgt := 18) S.1 S.2.1 dX10_seasonOn_11 (by decide) (fun (c1 : 1 ≤ (f_X7_numberOf nums 0)) => ?_) (fun (c1 : ¬ 1 ≤ (f_X7_numberOf nums 0)) => ?_)
  · refine lv_iload_n S.1 S.2.1 dX10_seasonOn_18 rfl (lv_at hl 2 rfl) ?_
    refine lv_iload_n S.1 S.2.1 dX10_seasonOn_19 rfl (lv_at hl 0 rfl) ?_
    refine lv_idiv S.1 S.2.1 dX10_seasonOn_20 (by intro h; rw [h] at c1; exact absurd c1 (by decide)) ?_
    refine lv_iconst (v := 4) S.1 S.2.1 dX10_seasonOn_21 (by decide) ?_
    refine g_aftR0 (st1 := [.int (f_J9_floorMod_7cf53 (d / (f_X7_numberOf nums 0)) 4)]) (g_St (As := [.int (d / (f_X7_numberOf nums 0)), .int 4]) (rest := []) S ms_J9_floorMod_7cf53 qw737 (c_J9_floorMod_7cf53 l D A w α (d / (f_X7_numberOf nums 0)) 4 (by first | assumption | exact vin_d (by decide) | exact vp_in_nI (by omega) (by decide) | decide | omega)) hK hP hD hE hS rfl rfl hl.1 (Nat.le_of_ble_eq_true rfl) rfl rfl ⟨(Nat.le_of_ble_eq_true rfl), (Nat.le_of_ble_eq_true rfl)⟩ ⟨(Nat.le_of_ble_eq_true rfl), (Nat.le_of_ble_eq_true rfl)⟩ dX10_seasonOn_22) hS rfl (fun locs hS => ?_)
    have hf : (f_X10_seasonOn nums d) = (f_J9_floorMod_7cf53 (d / (f_X7_numberOf nums 0)) 4) := if_pos c1
    exact g_iretR S hr hlk hS (by rw [hf] <;> rfl) dX10_seasonOn_25
  · refine lv_iconst (v := 0) S.1 S.2.1 dX10_seasonOn_14 (by decide) ?_
    refine lv_goto (tgt := 25) S.1 S.2.1 dX10_seasonOn_15 (by decide) ?_
    have hf : (f_X10_seasonOn nums d) = 0 := if_neg c1
    exact g_iretR S hr hlk hS (by rw [hf] <;> rfl) dX10_seasonOn_25
def f_X10_stateOfVote (nums : Nat → Int32) (day : Int32) (votes : Int32) (isOpen : Int32) (clos : Int32) : Int32 := (if votes = 0 then 0 else (bif tb isOpen then 1 else (if (clos + (f_X7_numberOf nums 8)) < day then 3 else 2)))
set_option maxHeartbeats 4000000 in
set_option maxRecDepth 100000 in
theorem c_X10_stateOfVote (l : Launch) (D : va_G) (A : Nat → Prop) (w : va_W) (α : Nat → Nat) (k : Nat) (nums : Nat → Int32) (bNames : Nat → Int32) (pNames : Nat → Int32) (fBoats : Nat → Int32) (nB : Int32) (nP : Int32) (day : Int32) (votes : Int32) (isOpen : Int32) (baskets : Int32) (lays : Int32) (recs : Int32) (fneed : Int32) (clos : Int32) (boatO : Nat → Int32) (seaO : Nat → Int32) (faultO : Nat → Int32) (daysO : Nat → Int32) (backB : Nat → Int32) (sailB : Nat → Int32) (plc : Nat → Int32) (car : Nat → Int32) (bnd : Nat → Int32) (bsk : Nat → Int32) (dyL : Nat → Int32) (rsn : Nat → Int32) (pastF : Nat → Int32) (pastN : Int32) (logF : Nat → Int32) (logN : Int32) (blB : Nat → Int32) (blC : Nat → Int32) (hB0 : Blk w k (cVil D α k nums bNames pNames fBoats nB nP day votes isOpen baskets lays recs fneed clos boatO seaO faultO daysO backB sailB plc car bnd bsk dyL rsn pastF pastN logF logN blB blC)) : Met l yX10_stateOfVote (ws_ yX10_stateOfVote cX10_stateOfVote 1 (some .int)) ({ frames := 2, cells := 0, slots := 0, locals := 43 }) (gPre D A [.ref (α (k))] w) (gR (some (.int (f_X10_stateOfVote nums day votes isOpen clos)))) 0 0 A := by
  refine g_met [(0, .ref (α (k)))] (plainFor_of_name (by decide)) (Nat.le_of_ble_eq_true rfl) rfl (fun pg en s mi ar below me co ls S hK hP hD hE hS hr hlk hnm hl => ?_)
  refine lv_aload_n S.1 S.2.1 dX10_stateOfVote_0 rfl (lv_at hl 0 rfl) ?_
  refine g_get (v := .ref (α (k + 6))) S hK hP (hB0 0 _ rfl) rfl inX10 1 (by decide) qw254 rfl dX10_stateOfVote_1 ?_
  refine g_get (v := .int votes) S hK hP (hB0 6 _ rfl) rfl inX8 5 (by decide) qw198 rfl dX10_stateOfVote_4 ?_
  refine lv_if_ne (tgt := 12) S.1 S.2.1 dX10_stateOfVote_7 (by decide) (fun (c1 : ¬ votes = 0) => ?_) (fun (c1 : votes = 0) => ?_)
  · refine lv_aload_n S.1 S.2.1 dX10_stateOfVote_12 rfl (lv_at hl 0 rfl) ?_
    refine g_get (v := .ref (α (k + 6))) S hK hP (hB0 0 _ rfl) rfl inX10 1 (by decide) qw254 rfl dX10_stateOfVote_13 ?_
    refine g_get (v := .int (b2i (tb isOpen))) S hK hP (hB0 6 _ rfl) rfl inX8 6 (by decide) qw201 rfl dX10_stateOfVote_16 ?_
    refine g_bifeq (b := tb isOpen) (tgt := 24) S dX10_stateOfVote_19 (by decide) (fun (c2 : tb isOpen = false) => ?_) (fun (c2 : tb isOpen = true) => ?_)
    · refine lv_aload_n S.1 S.2.1 dX10_stateOfVote_24 rfl (lv_at hl 0 rfl) ?_
      refine g_get (v := .ref (α (k + 6))) S hK hP (hB0 0 _ rfl) rfl inX10 1 (by decide) qw254 rfl dX10_stateOfVote_25 ?_
      refine g_get (v := .int day) S hK hP (hB0 6 _ rfl) rfl inX8 4 (by decide) qw195 rfl dX10_stateOfVote_28 ?_
      refine lv_aload_n S.1 S.2.1 dX10_stateOfVote_31 rfl (lv_at hl 0 rfl) ?_
      refine g_get (v := .ref (α (k + 6))) S hK hP (hB0 0 _ rfl) rfl inX10 1 (by decide) qw254 rfl dX10_stateOfVote_32 ?_
      refine g_get (v := .int clos) S hK hP (hB0 6 _ rfl) rfl inX8 11 (by decide) qw213 rfl dX10_stateOfVote_35 ?_
      refine lv_aload_n S.1 S.2.1 dX10_stateOfVote_38 rfl (lv_at hl 0 rfl) ?_
      refine g_get (v := .ref (α (k + 1))) S hK hP (hB0 0 _ rfl) rfl inX10 0 (by decide) qw252 rfl dX10_stateOfVote_39 ?_
      refine lv_bipush (v := 8) S.1 S.2.1 dX10_stateOfVote_42 (by decide) ?_
      refine g_aftR0 (st1 := [.int (f_X7_numberOf nums 8), .int clos, .int day]) (g_V (As := [.int 8]) (rest := [.int clos, .int day]) S mi_X7_numberOf qw733 (c_X7_numberOf l D A w α (k + 1) nums bNames pNames fBoats nB nP 8 (hB0.sub 1 rfl)) hK hP hD hE hS (hB0 1 _ rfl) rfl rfl rfl hl.1 (Nat.le_of_ble_eq_true rfl) rfl rfl ⟨(Nat.le_of_ble_eq_true rfl), (Nat.le_of_ble_eq_true rfl)⟩ ⟨(Nat.le_of_ble_eq_true rfl), (Nat.le_of_ble_eq_true rfl)⟩ dX10_stateOfVote_44) hS rfl (fun locs hS => ?_)
      refine lv_iadd S.1 S.2.1 dX10_stateOfVote_47 ?_
      refine lv_icmp_gt (tgt := 55) S.1 S.2.1 dX10_stateOfVote_48 (by decide) (fun (c3 : (clos + (f_X7_numberOf nums 8)) < day) => ?_) (fun (c3 : ¬ (clos + (f_X7_numberOf nums 8)) < day) => ?_)
      · refine lv_iconst (v := 3) S.1 S.2.1 dX10_stateOfVote_55 (by decide) ?_
        have hf : (f_X10_stateOfVote nums day votes isOpen clos) = 3 := (if_neg c1).trans ((cd_f c2).trans (if_pos c3))
        exact g_iretR S hr hlk hS (by rw [hf] <;> rfl) dX10_stateOfVote_56
      · refine lv_iconst (v := 2) S.1 S.2.1 dX10_stateOfVote_51 (by decide) ?_
        refine lv_goto (tgt := 56) S.1 S.2.1 dX10_stateOfVote_52 (by decide) ?_
        have hf : (f_X10_stateOfVote nums day votes isOpen clos) = 2 := (if_neg c1).trans ((cd_f c2).trans (if_neg c3))
        exact g_iretR S hr hlk hS (by rw [hf] <;> rfl) dX10_stateOfVote_56
    · refine lv_iconst (v := 1) S.1 S.2.1 dX10_stateOfVote_22 (by decide) ?_
      have hf : (f_X10_stateOfVote nums day votes isOpen clos) = 1 := (if_neg c1).trans (cd_t c2)
      exact g_iretR S hr hlk hS (by rw [hf] <;> rfl) dX10_stateOfVote_23
  · refine lv_iconst (v := 0) S.1 S.2.1 dX10_stateOfVote_10 (by decide) ?_
    have hf : (f_X10_stateOfVote nums day votes isOpen clos) = 0 := if_pos c1
    exact g_iretR S hr hlk hS (by rw [hf] <;> rfl) dX10_stateOfVote_11
def f_X10_homeDayOf (day : Int32) (boatO : Nat → Int32) (seaO : Nat → Int32) (backB : Nat → Int32) (p : Int32) : Int32 := (bif (f_X2_isAtSea seaO p) then (f_X2_backOf backB (f_X2_boatOf boatO p)) else day)
set_option maxHeartbeats 4000000 in
set_option maxRecDepth 100000 in
theorem c_X10_homeDayOf (l : Launch) (D : va_G) (A : Nat → Prop) (w : va_W) (α : Nat → Nat) (k : Nat) (nums : Nat → Int32) (bNames : Nat → Int32) (pNames : Nat → Int32) (fBoats : Nat → Int32) (nB : Int32) (nP : Int32) (day : Int32) (votes : Int32) (isOpen : Int32) (baskets : Int32) (lays : Int32) (recs : Int32) (fneed : Int32) (clos : Int32) (boatO : Nat → Int32) (seaO : Nat → Int32) (faultO : Nat → Int32) (daysO : Nat → Int32) (backB : Nat → Int32) (sailB : Nat → Int32) (plc : Nat → Int32) (car : Nat → Int32) (bnd : Nat → Int32) (bsk : Nat → Int32) (dyL : Nat → Int32) (rsn : Nat → Int32) (pastF : Nat → Int32) (pastN : Int32) (logF : Nat → Int32) (logN : Int32) (blB : Nat → Int32) (blC : Nat → Int32) (p : Int32) (hB0 : Blk w k (cVil D α k nums bNames pNames fBoats nB nP day votes isOpen baskets lays recs fneed clos boatO seaO faultO daysO backB sailB plc car bnd bsk dyL rsn pastF pastN logF logN blB blC)) : Met l yX10_homeDayOf (ws_ yX10_homeDayOf cX10_homeDayOf 2 (some .int)) ({ frames := 2, cells := 0, slots := 0, locals := 43 }) (gPre D A [.ref (α (k)), .int p] w) (gR (some (.int (f_X10_homeDayOf day boatO seaO backB p)))) 0 0 A := by
  refine g_met [(0, .ref (α (k))), (1, .int p)] (plainFor_of_name (by decide)) (Nat.le_of_ble_eq_true rfl) rfl (fun pg en s mi ar below me co ls S hK hP hD hE hS hr hlk hnm hl => ?_)
  refine lv_aload_n S.1 S.2.1 dX10_homeDayOf_0 rfl (lv_at hl 0 rfl) ?_
  refine g_get (v := .ref (α (k + 6))) S hK hP (hB0 0 _ rfl) rfl inX10 1 (by decide) qw254 rfl dX10_homeDayOf_1 ?_
  refine g_get (v := .ref (α (k + 7))) S hK hP (hB0 6 _ rfl) rfl inX8 0 (by decide) qw182 rfl dX10_homeDayOf_4 ?_
  refine lv_iload_n S.1 S.2.1 dX10_homeDayOf_7 rfl (lv_at hl 1 rfl) ?_
  refine g_aftR0 (st1 := [.int (b2i (f_X2_isAtSea seaO p))]) (g_V (As := [.int p]) (rest := []) S mi_X2_isAtSea qw486 (c_X2_isAtSea l D A w α (k + 7) boatO seaO faultO daysO backB sailB p (hB0.sub 7 rfl)) hK hP hD hE hS (hB0 7 _ rfl) rfl rfl rfl hl.1 (Nat.le_of_ble_eq_true rfl) rfl rfl ⟨(Nat.le_of_ble_eq_true rfl), (Nat.le_of_ble_eq_true rfl)⟩ ⟨(Nat.le_of_ble_eq_true rfl), (Nat.le_of_ble_eq_true rfl)⟩ dX10_homeDayOf_8) hS rfl (fun locs hS => ?_)
  refine g_bifne (b := (f_X2_isAtSea seaO p)) (tgt := 22) S dX10_homeDayOf_11 (by decide) (fun (c1 : (f_X2_isAtSea seaO p) = true) => ?_) (fun (c1 : (f_X2_isAtSea seaO p) = false) => ?_)
  · refine lv_aload_n S.1 S.2.1 dX10_homeDayOf_22 rfl (lv_at hl 0 rfl) ?_
    refine g_get (v := .ref (α (k + 6))) S hK hP (hB0 0 _ rfl) rfl inX10 1 (by decide) qw254 rfl dX10_homeDayOf_23 ?_
    refine g_get (v := .ref (α (k + 7))) S hK hP (hB0 6 _ rfl) rfl inX8 0 (by decide) qw182 rfl dX10_homeDayOf_26 ?_
    refine lv_aload_n S.1 S.2.1 dX10_homeDayOf_29 rfl (lv_at hl 0 rfl) ?_
    refine g_get (v := .ref (α (k + 6))) S hK hP (hB0 0 _ rfl) rfl inX10 1 (by decide) qw254 rfl dX10_homeDayOf_30 ?_
    refine g_get (v := .ref (α (k + 7))) S hK hP (hB0 6 _ rfl) rfl inX8 0 (by decide) qw182 rfl dX10_homeDayOf_33 ?_
    refine lv_iload_n S.1 S.2.1 dX10_homeDayOf_36 rfl (lv_at hl 1 rfl) ?_
    refine g_aftR0 (st1 := [.int (f_X2_boatOf boatO p), .ref (α (k + 7))]) (g_V (As := [.int p]) (rest := [.ref (α (k + 7))]) S mi_X2_boatOf qw487 (c_X2_boatOf l D A w α (k + 7) boatO seaO faultO daysO backB sailB p (hB0.sub 7 rfl)) hK hP hD hE hS (hB0 7 _ rfl) rfl rfl rfl hl.1 (Nat.le_of_ble_eq_true rfl) rfl rfl ⟨(Nat.le_of_ble_eq_true rfl), (Nat.le_of_ble_eq_true rfl)⟩ ⟨(Nat.le_of_ble_eq_true rfl), (Nat.le_of_ble_eq_true rfl)⟩ dX10_homeDayOf_37) hS rfl (fun locs hS => ?_)
    refine g_aftR0 (st1 := [.int (f_X2_backOf backB (f_X2_boatOf boatO p))]) (g_V (As := [.int (f_X2_boatOf boatO p)]) (rest := []) S mi_X2_backOf qw488 (c_X2_backOf l D A w α (k + 7) boatO seaO faultO daysO backB sailB (f_X2_boatOf boatO p) (hB0.sub 7 rfl)) hK hP hD hE hS (hB0 7 _ rfl) rfl rfl rfl hl.1 (Nat.le_of_ble_eq_true rfl) rfl rfl ⟨(Nat.le_of_ble_eq_true rfl), (Nat.le_of_ble_eq_true rfl)⟩ ⟨(Nat.le_of_ble_eq_true rfl), (Nat.le_of_ble_eq_true rfl)⟩ dX10_homeDayOf_40) hS rfl (fun locs hS => ?_)
    have hf : (f_X10_homeDayOf day boatO seaO backB p) = (f_X2_backOf backB (f_X2_boatOf boatO p)) := cd_t c1
    exact g_iretR S hr hlk hS (by rw [hf] <;> rfl) dX10_homeDayOf_43
  · refine lv_aload_n S.1 S.2.1 dX10_homeDayOf_14 rfl (lv_at hl 0 rfl) ?_
    refine g_get (v := .ref (α (k + 6))) S hK hP (hB0 0 _ rfl) rfl inX10 1 (by decide) qw254 rfl dX10_homeDayOf_15 ?_
    refine g_get (v := .int day) S hK hP (hB0 6 _ rfl) rfl inX8 4 (by decide) qw195 rfl dX10_homeDayOf_18 ?_
    have hf : (f_X10_homeDayOf day boatO seaO backB p) = day := cd_f c1
    exact g_iretR S hr hlk hS (by rw [hf] <;> rfl) dX10_homeDayOf_21
def f_X10_needOf (nums : Nat → Int32) (nP : Int32) (d : Int32) (b : Int32) : Int32 := (if (((((f_X7_numberOf nums (1 + (f_X10_seasonOn nums d))) * (f_X7_people nP)) + 99) / 100) - ((f_X7_numberOf nums 5) * b)) < (f_X7_numberOf nums 6) then (f_X7_numberOf nums 6) else (((((f_X7_numberOf nums (1 + (f_X10_seasonOn nums d))) * (f_X7_people nP)) + 99) / 100) - ((f_X7_numberOf nums 5) * b)))
set_option maxHeartbeats 4000000 in
set_option maxRecDepth 100000 in
theorem c_X10_needOf (l : Launch) (D : va_G) (A : Nat → Prop) (w : va_W) (α : Nat → Nat) (k : Nat) (nums : Nat → Int32) (bNames : Nat → Int32) (pNames : Nat → Int32) (fBoats : Nat → Int32) (nB : Int32) (nP : Int32) (day : Int32) (votes : Int32) (isOpen : Int32) (baskets : Int32) (lays : Int32) (recs : Int32) (fneed : Int32) (clos : Int32) (boatO : Nat → Int32) (seaO : Nat → Int32) (faultO : Nat → Int32) (daysO : Nat → Int32) (backB : Nat → Int32) (sailB : Nat → Int32) (plc : Nat → Int32) (car : Nat → Int32) (bnd : Nat → Int32) (bsk : Nat → Int32) (dyL : Nat → Int32) (rsn : Nat → Int32) (pastF : Nat → Int32) (pastN : Int32) (logF : Nat → Int32) (logN : Int32) (blB : Nat → Int32) (blC : Nat → Int32) (d : Int32) (b : Int32) (hB0 : Blk w k (cVil D α k nums bNames pNames fBoats nB nP day votes isOpen baskets lays recs fneed clos boatO seaO faultO daysO backB sailB plc car bnd bsk dyL rsn pastF pastN logF logN blB blC)) : Met l yX10_needOf (ws_ yX10_needOf cX10_needOf 5 (some .int)) ({ frames := 3, cells := 0, slots := 0, locals := 65 }) (gPre D A [.ref (α (k)), .int d, .int b] w) (gR (some (.int (f_X10_needOf nums nP d b)))) 0 0 A := by
  refine g_met [(0, .ref (α (k))), (1, .int d), (2, .int b)] (plainFor_of_name (by decide)) (Nat.le_of_ble_eq_true rfl) rfl (fun pg en s mi ar below me co ls S hK hP hD hE hS hr hlk hnm hl => ?_)
  refine lv_aload_n S.1 S.2.1 dX10_needOf_0 rfl (lv_at hl 0 rfl) ?_
  refine g_get (v := .ref (α (k + 1))) S hK hP (hB0 0 _ rfl) rfl inX10 0 (by decide) qw252 rfl dX10_needOf_1 ?_
  refine lv_iconst (v := 1) S.1 S.2.1 dX10_needOf_4 (by decide) ?_
  refine lv_aload_n S.1 S.2.1 dX10_needOf_5 rfl (lv_at hl 0 rfl) ?_
  refine lv_iload_n S.1 S.2.1 dX10_needOf_6 rfl (lv_at hl 1 rfl) ?_
  refine g_aftR0 (st1 := [.int (f_X10_seasonOn nums d), .int 1, .ref (α (k + 1))]) (g_V (As := [.int d]) (rest := [.int 1, .ref (α (k + 1))]) S mi_X10_seasonOn qw764 (c_X10_seasonOn l D A w α (k) nums bNames pNames fBoats nB nP day votes isOpen baskets lays recs fneed clos boatO seaO faultO daysO backB sailB plc car bnd bsk dyL rsn pastF pastN logF logN blB blC d hB0) hK hP hD hE hS (hB0 0 _ rfl) rfl rfl rfl hl.1 (Nat.le_of_ble_eq_true rfl) rfl rfl ⟨(Nat.le_of_ble_eq_true rfl), (Nat.le_of_ble_eq_true rfl)⟩ ⟨(Nat.le_of_ble_eq_true rfl), (Nat.le_of_ble_eq_true rfl)⟩ dX10_needOf_7) hS rfl (fun locs hS => ?_)
  refine lv_iadd S.1 S.2.1 dX10_needOf_10 ?_
  refine g_aftR0 (st1 := [.int (f_X7_numberOf nums (1 + (f_X10_seasonOn nums d)))]) (g_V (As := [.int (1 + (f_X10_seasonOn nums d))]) (rest := []) S mi_X7_numberOf qw733 (c_X7_numberOf l D A w α (k + 1) nums bNames pNames fBoats nB nP (1 + (f_X10_seasonOn nums d)) (hB0.sub 1 rfl)) hK hP hD hE hS (hB0 1 _ rfl) rfl rfl rfl hl.1 (Nat.le_of_ble_eq_true rfl) rfl rfl ⟨(Nat.le_of_ble_eq_true rfl), (Nat.le_of_ble_eq_true rfl)⟩ ⟨(Nat.le_of_ble_eq_true rfl), (Nat.le_of_ble_eq_true rfl)⟩ dX10_needOf_11) hS rfl (fun locs hS => ?_)
  refine lv_istore_n (lv' := [(3, .int (f_X7_numberOf nums (1 + (f_X10_seasonOn nums d)))), (0, .ref (α (k))), (1, .int d), (2, .int b)]) S.1 S.2.1 dX10_needOf_14 rfl hl (by decide) rfl (fun ls hl => ?_)
  refine lv_iload_n S.1 S.2.1 dX10_needOf_15 rfl (lv_at hl 0 rfl) ?_
  refine lv_aload_n S.1 S.2.1 dX10_needOf_16 rfl (lv_at hl 1 rfl) ?_
  refine g_get (v := .ref (α (k + 1))) S hK hP (hB0 0 _ rfl) rfl inX10 0 (by decide) qw252 rfl dX10_needOf_17 ?_
  refine g_aftR0 (st1 := [.int (f_X7_people nP), .int (f_X7_numberOf nums (1 + (f_X10_seasonOn nums d)))]) (g_V (As := []) (rest := [.int (f_X7_numberOf nums (1 + (f_X10_seasonOn nums d)))]) S mi_X7_people qw765 (c_X7_people l D A w α (k + 1) nums bNames pNames fBoats nB nP (hB0.sub 1 rfl)) hK hP hD hE hS (hB0 1 _ rfl) rfl rfl rfl hl.1 (Nat.le_of_ble_eq_true rfl) rfl rfl ⟨(Nat.le_of_ble_eq_true rfl), (Nat.le_of_ble_eq_true rfl)⟩ ⟨(Nat.le_of_ble_eq_true rfl), (Nat.le_of_ble_eq_true rfl)⟩ dX10_needOf_20) hS rfl (fun locs hS => ?_)
  refine lv_imul S.1 S.2.1 dX10_needOf_23 ?_
  refine lv_bipush (v := 99) S.1 S.2.1 dX10_needOf_24 (by decide) ?_
  refine lv_iadd S.1 S.2.1 dX10_needOf_26 ?_
  refine lv_bipush (v := 100) S.1 S.2.1 dX10_needOf_27 (by decide) ?_
  refine lv_idiv S.1 S.2.1 dX10_needOf_29 (by first | assumption | exact vin_d (by decide) | exact vp_in_nI (by omega) (by decide) | decide) ?_
  refine lv_aload_n S.1 S.2.1 dX10_needOf_30 rfl (lv_at hl 1 rfl) ?_
  refine g_get (v := .ref (α (k + 1))) S hK hP (hB0 0 _ rfl) rfl inX10 0 (by decide) qw252 rfl dX10_needOf_31 ?_
  refine lv_iconst (v := 5) S.1 S.2.1 dX10_needOf_34 (by decide) ?_
  refine g_aftR0 (st1 := [.int (f_X7_numberOf nums 5), .int ((((f_X7_numberOf nums (1 + (f_X10_seasonOn nums d))) * (f_X7_people nP)) + 99) / 100)]) (g_V (As := [.int 5]) (rest := [.int ((((f_X7_numberOf nums (1 + (f_X10_seasonOn nums d))) * (f_X7_people nP)) + 99) / 100)]) S mi_X7_numberOf qw733 (c_X7_numberOf l D A w α (k + 1) nums bNames pNames fBoats nB nP 5 (hB0.sub 1 rfl)) hK hP hD hE hS (hB0 1 _ rfl) rfl rfl rfl hl.1 (Nat.le_of_ble_eq_true rfl) rfl rfl ⟨(Nat.le_of_ble_eq_true rfl), (Nat.le_of_ble_eq_true rfl)⟩ ⟨(Nat.le_of_ble_eq_true rfl), (Nat.le_of_ble_eq_true rfl)⟩ dX10_needOf_35) hS rfl (fun locs hS => ?_)
  refine lv_iload_n S.1 S.2.1 dX10_needOf_38 rfl (lv_at hl 3 rfl) ?_
  refine lv_imul S.1 S.2.1 dX10_needOf_39 ?_
  refine lv_isub S.1 S.2.1 dX10_needOf_40 ?_
  refine lv_istore (lv' := [(4, .int (((((f_X7_numberOf nums (1 + (f_X10_seasonOn nums d))) * (f_X7_people nP)) + 99) / 100) - ((f_X7_numberOf nums 5) * b))), (3, .int (f_X7_numberOf nums (1 + (f_X10_seasonOn nums d)))), (0, .ref (α (k))), (1, .int d), (2, .int b)]) S.1 S.2.1 dX10_needOf_41 hl (by decide) rfl (fun ls hl => ?_)
  refine lv_iload S.1 S.2.1 dX10_needOf_43 (lv_at hl 0 rfl) ?_
  refine lv_aload_n S.1 S.2.1 dX10_needOf_45 rfl (lv_at hl 2 rfl) ?_
  refine g_get (v := .ref (α (k + 1))) S hK hP (hB0 0 _ rfl) rfl inX10 0 (by decide) qw252 rfl dX10_needOf_46 ?_
  refine lv_bipush (v := 6) S.1 S.2.1 dX10_needOf_49 (by decide) ?_
  refine g_aftR0 (st1 := [.int (f_X7_numberOf nums 6), .int (((((f_X7_numberOf nums (1 + (f_X10_seasonOn nums d))) * (f_X7_people nP)) + 99) / 100) - ((f_X7_numberOf nums 5) * b))]) (g_V (As := [.int 6]) (rest := [.int (((((f_X7_numberOf nums (1 + (f_X10_seasonOn nums d))) * (f_X7_people nP)) + 99) / 100) - ((f_X7_numberOf nums 5) * b))]) S mi_X7_numberOf qw733 (c_X7_numberOf l D A w α (k + 1) nums bNames pNames fBoats nB nP 6 (hB0.sub 1 rfl)) hK hP hD hE hS (hB0 1 _ rfl) rfl rfl rfl hl.1 (Nat.le_of_ble_eq_true rfl) rfl rfl ⟨(Nat.le_of_ble_eq_true rfl), (Nat.le_of_ble_eq_true rfl)⟩ ⟨(Nat.le_of_ble_eq_true rfl), (Nat.le_of_ble_eq_true rfl)⟩ dX10_needOf_51) hS rfl (fun locs hS => ?_)
  refine va_mmax S.1 S.2.1 (S.2.2.1.trans hl.1.symm) S.2.2.2.1 (S.2.2.2.2 _ qw766) (S.2.2.2.2 _ qw45) (S.2.2.2.2 _ qw4) (S.2.2.2.2 _ qw46) (Nat.le_of_ble_eq_true rfl) (Nat.le_of_ble_eq_true rfl) (Nat.le_of_ble_eq_true rfl) (Nat.le_of_ble_eq_true rfl) dX10_needOf_54 ?_
  have hf : (f_X10_needOf nums nP d b) = (if (((((f_X7_numberOf nums (1 + (f_X10_seasonOn nums d))) * (f_X7_people nP)) + 99) / 100) - ((f_X7_numberOf nums 5) * b)) < (f_X7_numberOf nums 6) then (f_X7_numberOf nums 6) else (((((f_X7_numberOf nums (1 + (f_X10_seasonOn nums d))) * (f_X7_people nP)) + 99) / 100) - ((f_X7_numberOf nums 5) * b))) := rfl
  exact g_iretR S hr hlk hS (by rw [hf] <;> rfl) dX10_needOf_57
def f_X10_needBehind (nums : Nat → Int32) (nP : Int32) (day : Int32) (backB : Nat → Int32) (d : Int32) : Int32 := (f_X10_needOf nums nP (day + d) (f_X2_boatsOutOn backB (day + d)))
set_option maxHeartbeats 4000000 in
set_option maxRecDepth 100000 in
theorem c_X10_needBehind (l : Launch) (D : va_G) (A : Nat → Prop) (w : va_W) (α : Nat → Nat) (k : Nat) (nums : Nat → Int32) (bNames : Nat → Int32) (pNames : Nat → Int32) (fBoats : Nat → Int32) (nB : Int32) (nP : Int32) (day : Int32) (votes : Int32) (isOpen : Int32) (baskets : Int32) (lays : Int32) (recs : Int32) (fneed : Int32) (clos : Int32) (boatO : Nat → Int32) (seaO : Nat → Int32) (faultO : Nat → Int32) (daysO : Nat → Int32) (backB : Nat → Int32) (sailB : Nat → Int32) (plc : Nat → Int32) (car : Nat → Int32) (bnd : Nat → Int32) (bsk : Nat → Int32) (dyL : Nat → Int32) (rsn : Nat → Int32) (pastF : Nat → Int32) (pastN : Int32) (logF : Nat → Int32) (logN : Int32) (blB : Nat → Int32) (blC : Nat → Int32) (d : Int32) (hB0 : Blk w k (cVil D α k nums bNames pNames fBoats nB nP day votes isOpen baskets lays recs fneed clos boatO seaO faultO daysO backB sailB plc car bnd bsk dyL rsn pastF pastN logF logN blB blC)) : Met l yX10_needBehind (ws_ yX10_needBehind cX10_needBehind 3 (some .int)) ({ frames := 4, cells := 0, slots := 0, locals := 89 }) (gPre D A [.ref (α (k)), .int d] w) (gR (some (.int (f_X10_needBehind nums nP day backB d)))) 0 0 A := by
  refine g_met [(0, .ref (α (k))), (1, .int d)] (plainFor_of_name (by decide)) (Nat.le_of_ble_eq_true rfl) rfl (fun pg en s mi ar below me co ls S hK hP hD hE hS hr hlk hnm hl => ?_)
  refine lv_aload_n S.1 S.2.1 dX10_needBehind_0 rfl (lv_at hl 0 rfl) ?_
  refine g_get (v := .ref (α (k + 6))) S hK hP (hB0 0 _ rfl) rfl inX10 1 (by decide) qw254 rfl dX10_needBehind_1 ?_
  refine g_get (v := .int day) S hK hP (hB0 6 _ rfl) rfl inX8 4 (by decide) qw195 rfl dX10_needBehind_4 ?_
  refine lv_iload_n S.1 S.2.1 dX10_needBehind_7 rfl (lv_at hl 1 rfl) ?_
  refine lv_iadd S.1 S.2.1 dX10_needBehind_8 ?_
  refine lv_istore_n (lv' := [(2, .int (day + d)), (0, .ref (α (k))), (1, .int d)]) S.1 S.2.1 dX10_needBehind_9 rfl hl (by decide) rfl (fun ls hl => ?_)
  refine lv_aload_n S.1 S.2.1 dX10_needBehind_10 rfl (lv_at hl 1 rfl) ?_
  refine lv_iload_n S.1 S.2.1 dX10_needBehind_11 rfl (lv_at hl 0 rfl) ?_
  refine lv_aload_n S.1 S.2.1 dX10_needBehind_12 rfl (lv_at hl 1 rfl) ?_
  refine g_get (v := .ref (α (k + 6))) S hK hP (hB0 0 _ rfl) rfl inX10 1 (by decide) qw254 rfl dX10_needBehind_13 ?_
  refine g_get (v := .ref (α (k + 7))) S hK hP (hB0 6 _ rfl) rfl inX8 0 (by decide) qw182 rfl dX10_needBehind_16 ?_
  refine lv_iload_n S.1 S.2.1 dX10_needBehind_19 rfl (lv_at hl 0 rfl) ?_
  refine g_aftR0 (st1 := [.int (f_X2_boatsOutOn backB (day + d)), .int (day + d), .ref (α (k))]) (g_V (As := [.int (day + d)]) (rest := [.int (day + d), .ref (α (k))]) S mi_X2_boatsOutOn qw1342 (c_X2_boatsOutOn l D A w α (k + 7) boatO seaO faultO daysO backB sailB (day + d) (hB0.sub 7 rfl)) hK hP hD hE hS (hB0 7 _ rfl) rfl rfl rfl hl.1 (Nat.le_of_ble_eq_true rfl) rfl rfl ⟨(Nat.le_of_ble_eq_true rfl), (Nat.le_of_ble_eq_true rfl)⟩ ⟨(Nat.le_of_ble_eq_true rfl), (Nat.le_of_ble_eq_true rfl)⟩ dX10_needBehind_20) hS rfl (fun locs hS => ?_)
  refine g_aftR0 (st1 := [.int (f_X10_needOf nums nP (day + d) (f_X2_boatsOutOn backB (day + d)))]) (g_V (As := [.int (day + d), .int (f_X2_boatsOutOn backB (day + d))]) (rest := []) S mi_X10_needOf qw760 (c_X10_needOf l D A w α (k) nums bNames pNames fBoats nB nP day votes isOpen baskets lays recs fneed clos boatO seaO faultO daysO backB sailB plc car bnd bsk dyL rsn pastF pastN logF logN blB blC (day + d) (f_X2_boatsOutOn backB (day + d)) hB0) hK hP hD hE hS (hB0 0 _ rfl) rfl rfl rfl hl.1 (Nat.le_of_ble_eq_true rfl) rfl rfl ⟨(Nat.le_of_ble_eq_true rfl), (Nat.le_of_ble_eq_true rfl)⟩ ⟨(Nat.le_of_ble_eq_true rfl), (Nat.le_of_ble_eq_true rfl)⟩ dX10_needBehind_23) hS rfl (fun locs hS => ?_)
  have hf : (f_X10_needBehind nums nP day backB d) = (f_X10_needOf nums nP (day + d) (f_X2_boatsOutOn backB (day + d))) := rfl
  exact g_iretR S hr hlk hS (by rw [hf] <;> rfl) dX10_needBehind_26
def f_X10_needOfVote (nums : Nat → Int32) (nP : Int32) (day : Int32) (votes : Int32) (isOpen : Int32) (fneed : Int32) (backB : Nat → Int32) : Int32 := (if votes ≤ 0 then (f_X10_needOf nums nP day (f_X2_boatsOut backB)) else (bif tb isOpen then (f_X10_needOf nums nP day (f_X2_boatsOut backB)) else fneed))
set_option maxHeartbeats 4000000 in
set_option maxRecDepth 100000 in
theorem c_X10_needOfVote (l : Launch) (D : va_G) (A : Nat → Prop) (w : va_W) (α : Nat → Nat) (k : Nat) (nums : Nat → Int32) (bNames : Nat → Int32) (pNames : Nat → Int32) (fBoats : Nat → Int32) (nB : Int32) (nP : Int32) (day : Int32) (votes : Int32) (isOpen : Int32) (baskets : Int32) (lays : Int32) (recs : Int32) (fneed : Int32) (clos : Int32) (boatO : Nat → Int32) (seaO : Nat → Int32) (faultO : Nat → Int32) (daysO : Nat → Int32) (backB : Nat → Int32) (sailB : Nat → Int32) (plc : Nat → Int32) (car : Nat → Int32) (bnd : Nat → Int32) (bsk : Nat → Int32) (dyL : Nat → Int32) (rsn : Nat → Int32) (pastF : Nat → Int32) (pastN : Int32) (logF : Nat → Int32) (logN : Int32) (blB : Nat → Int32) (blC : Nat → Int32) (hB0 : Blk w k (cVil D α k nums bNames pNames fBoats nB nP day votes isOpen baskets lays recs fneed clos boatO seaO faultO daysO backB sailB plc car bnd bsk dyL rsn pastF pastN logF logN blB blC)) : Met l yX10_needOfVote (ws_ yX10_needOfVote cX10_needOfVote 1 (some .int)) ({ frames := 4, cells := 0, slots := 0, locals := 89 }) (gPre D A [.ref (α (k))] w) (gR (some (.int (f_X10_needOfVote nums nP day votes isOpen fneed backB)))) 0 0 A := by
  refine g_met [(0, .ref (α (k)))] (plainFor_of_name (by decide)) (Nat.le_of_ble_eq_true rfl) rfl (fun pg en s mi ar below me co ls S hK hP hD hE hS hr hlk hnm hl => ?_)
  refine lv_aload_n S.1 S.2.1 dX10_needOfVote_0 rfl (lv_at hl 0 rfl) ?_
  refine g_get (v := .ref (α (k + 6))) S hK hP (hB0 0 _ rfl) rfl inX10 1 (by decide) qw254 rfl dX10_needOfVote_1 ?_
  refine g_get (v := .int votes) S hK hP (hB0 6 _ rfl) rfl inX8 5 (by decide) qw198 rfl dX10_needOfVote_4 ?_
  refine lv_if_le (tgt := 28) S.1 S.2.1 dX10_needOfVote_7 (by decide) (fun (c1 : votes ≤ 0) => ?_) (fun (c1 : ¬ votes ≤ 0) => ?_)
  · refine lv_aload_n S.1 S.2.1 dX10_needOfVote_28 rfl (lv_at hl 0 rfl) ?_
    refine lv_aload_n S.1 S.2.1 dX10_needOfVote_29 rfl (lv_at hl 0 rfl) ?_
    refine g_get (v := .ref (α (k + 6))) S hK hP (hB0 0 _ rfl) rfl inX10 1 (by decide) qw254 rfl dX10_needOfVote_30 ?_
    refine g_get (v := .int day) S hK hP (hB0 6 _ rfl) rfl inX8 4 (by decide) qw195 rfl dX10_needOfVote_33 ?_
    refine lv_aload_n S.1 S.2.1 dX10_needOfVote_36 rfl (lv_at hl 0 rfl) ?_
    refine g_get (v := .ref (α (k + 6))) S hK hP (hB0 0 _ rfl) rfl inX10 1 (by decide) qw254 rfl dX10_needOfVote_37 ?_
    refine g_get (v := .ref (α (k + 7))) S hK hP (hB0 6 _ rfl) rfl inX8 0 (by decide) qw182 rfl dX10_needOfVote_40 ?_
    refine g_aftR0 (st1 := [.int (f_X2_boatsOut backB), .int day, .ref (α (k))]) (g_V (As := []) (rest := [.int day, .ref (α (k))]) S mi_X2_boatsOut qw759 (c_X2_boatsOut l D A w α (k + 7) boatO seaO faultO daysO backB sailB (hB0.sub 7 rfl)) hK hP hD hE hS (hB0 7 _ rfl) rfl rfl rfl hl.1 (Nat.le_of_ble_eq_true rfl) rfl rfl ⟨(Nat.le_of_ble_eq_true rfl), (Nat.le_of_ble_eq_true rfl)⟩ ⟨(Nat.le_of_ble_eq_true rfl), (Nat.le_of_ble_eq_true rfl)⟩ dX10_needOfVote_43) hS rfl (fun locs hS => ?_)
    refine g_aftR0 (st1 := [.int (f_X10_needOf nums nP day (f_X2_boatsOut backB))]) (g_V (As := [.int day, .int (f_X2_boatsOut backB)]) (rest := []) S mi_X10_needOf qw760 (c_X10_needOf l D A w α (k) nums bNames pNames fBoats nB nP day votes isOpen baskets lays recs fneed clos boatO seaO faultO daysO backB sailB plc car bnd bsk dyL rsn pastF pastN logF logN blB blC day (f_X2_boatsOut backB) hB0) hK hP hD hE hS (hB0 0 _ rfl) rfl rfl rfl hl.1 (Nat.le_of_ble_eq_true rfl) rfl rfl ⟨(Nat.le_of_ble_eq_true rfl), (Nat.le_of_ble_eq_true rfl)⟩ ⟨(Nat.le_of_ble_eq_true rfl), (Nat.le_of_ble_eq_true rfl)⟩ dX10_needOfVote_46) hS rfl (fun locs hS => ?_)
    have hf : (f_X10_needOfVote nums nP day votes isOpen fneed backB) = (f_X10_needOf nums nP day (f_X2_boatsOut backB)) := if_pos c1
    exact g_iretR S hr hlk hS (by rw [hf] <;> rfl) dX10_needOfVote_49
  · refine lv_aload_n S.1 S.2.1 dX10_needOfVote_10 rfl (lv_at hl 0 rfl) ?_
    refine g_get (v := .ref (α (k + 6))) S hK hP (hB0 0 _ rfl) rfl inX10 1 (by decide) qw254 rfl dX10_needOfVote_11 ?_
    refine g_get (v := .int (b2i (tb isOpen))) S hK hP (hB0 6 _ rfl) rfl inX8 6 (by decide) qw201 rfl dX10_needOfVote_14 ?_
    refine g_bifne (b := tb isOpen) (tgt := 28) S dX10_needOfVote_17 (by decide) (fun (c2 : tb isOpen = true) => ?_) (fun (c2 : tb isOpen = false) => ?_)
    · refine lv_aload_n S.1 S.2.1 dX10_needOfVote_28 rfl (lv_at hl 0 rfl) ?_
      refine lv_aload_n S.1 S.2.1 dX10_needOfVote_29 rfl (lv_at hl 0 rfl) ?_
      refine g_get (v := .ref (α (k + 6))) S hK hP (hB0 0 _ rfl) rfl inX10 1 (by decide) qw254 rfl dX10_needOfVote_30 ?_
      refine g_get (v := .int day) S hK hP (hB0 6 _ rfl) rfl inX8 4 (by decide) qw195 rfl dX10_needOfVote_33 ?_
      refine lv_aload_n S.1 S.2.1 dX10_needOfVote_36 rfl (lv_at hl 0 rfl) ?_
      refine g_get (v := .ref (α (k + 6))) S hK hP (hB0 0 _ rfl) rfl inX10 1 (by decide) qw254 rfl dX10_needOfVote_37 ?_
      refine g_get (v := .ref (α (k + 7))) S hK hP (hB0 6 _ rfl) rfl inX8 0 (by decide) qw182 rfl dX10_needOfVote_40 ?_
      refine g_aftR0 (st1 := [.int (f_X2_boatsOut backB), .int day, .ref (α (k))]) (g_V (As := []) (rest := [.int day, .ref (α (k))]) S mi_X2_boatsOut qw759 (c_X2_boatsOut l D A w α (k + 7) boatO seaO faultO daysO backB sailB (hB0.sub 7 rfl)) hK hP hD hE hS (hB0 7 _ rfl) rfl rfl rfl hl.1 (Nat.le_of_ble_eq_true rfl) rfl rfl ⟨(Nat.le_of_ble_eq_true rfl), (Nat.le_of_ble_eq_true rfl)⟩ ⟨(Nat.le_of_ble_eq_true rfl), (Nat.le_of_ble_eq_true rfl)⟩ dX10_needOfVote_43) hS rfl (fun locs hS => ?_)
      refine g_aftR0 (st1 := [.int (f_X10_needOf nums nP day (f_X2_boatsOut backB))]) (g_V (As := [.int day, .int (f_X2_boatsOut backB)]) (rest := []) S mi_X10_needOf qw760 (c_X10_needOf l D A w α (k) nums bNames pNames fBoats nB nP day votes isOpen baskets lays recs fneed clos boatO seaO faultO daysO backB sailB plc car bnd bsk dyL rsn pastF pastN logF logN blB blC day (f_X2_boatsOut backB) hB0) hK hP hD hE hS (hB0 0 _ rfl) rfl rfl rfl hl.1 (Nat.le_of_ble_eq_true rfl) rfl rfl ⟨(Nat.le_of_ble_eq_true rfl), (Nat.le_of_ble_eq_true rfl)⟩ ⟨(Nat.le_of_ble_eq_true rfl), (Nat.le_of_ble_eq_true rfl)⟩ dX10_needOfVote_46) hS rfl (fun locs hS => ?_)
      have hf : (f_X10_needOfVote nums nP day votes isOpen fneed backB) = (f_X10_needOf nums nP day (f_X2_boatsOut backB)) := (if_neg c1).trans (cd_t c2)
      exact g_iretR S hr hlk hS (by rw [hf] <;> rfl) dX10_needOfVote_49
    · refine lv_aload_n S.1 S.2.1 dX10_needOfVote_20 rfl (lv_at hl 0 rfl) ?_
      refine g_get (v := .ref (α (k + 6))) S hK hP (hB0 0 _ rfl) rfl inX10 1 (by decide) qw254 rfl dX10_needOfVote_21 ?_
      refine g_get (v := .int fneed) S hK hP (hB0 6 _ rfl) rfl inX8 10 (by decide) qw211 rfl dX10_needOfVote_24 ?_
      have hf : (f_X10_needOfVote nums nP day votes isOpen fneed backB) = fneed := (if_neg c1).trans (cd_f c2)
      exact g_iretR S hr hlk hS (by rw [hf] <;> rfl) dX10_needOfVote_27
def f_X10_surplusBehind (nums : Nat → Int32) (nP : Int32) (day : Int32) (boatO : Nat → Int32) (seaO : Nat → Int32) (backB : Nat → Int32) (d : Int32) : Int32 := (((f_X7_people nP) - (f_X2_peopleAtSeaOn boatO seaO backB (day + d))) - (f_X10_needBehind nums nP day backB d))
set_option maxHeartbeats 4000000 in
set_option maxRecDepth 100000 in
theorem c_X10_surplusBehind (l : Launch) (D : va_G) (A : Nat → Prop) (w : va_W) (α : Nat → Nat) (k : Nat) (nums : Nat → Int32) (bNames : Nat → Int32) (pNames : Nat → Int32) (fBoats : Nat → Int32) (nB : Int32) (nP : Int32) (day : Int32) (votes : Int32) (isOpen : Int32) (baskets : Int32) (lays : Int32) (recs : Int32) (fneed : Int32) (clos : Int32) (boatO : Nat → Int32) (seaO : Nat → Int32) (faultO : Nat → Int32) (daysO : Nat → Int32) (backB : Nat → Int32) (sailB : Nat → Int32) (plc : Nat → Int32) (car : Nat → Int32) (bnd : Nat → Int32) (bsk : Nat → Int32) (dyL : Nat → Int32) (rsn : Nat → Int32) (pastF : Nat → Int32) (pastN : Int32) (logF : Nat → Int32) (logN : Int32) (blB : Nat → Int32) (blC : Nat → Int32) (d : Int32) (hB0 : Blk w k (cVil D α k nums bNames pNames fBoats nB nP day votes isOpen baskets lays recs fneed clos boatO seaO faultO daysO backB sailB plc car bnd bsk dyL rsn pastF pastN logF logN blB blC)) : Met l yX10_surplusBehind (ws_ yX10_surplusBehind cX10_surplusBehind 3 (some .int)) ({ frames := 5, cells := 0, slots := 0, locals := 111 }) (gPre D A [.ref (α (k)), .int d] w) (gR (some (.int (f_X10_surplusBehind nums nP day boatO seaO backB d)))) 0 0 A := by
  refine g_met [(0, .ref (α (k))), (1, .int d)] (plainFor_of_name (by decide)) (Nat.le_of_ble_eq_true rfl) rfl (fun pg en s mi ar below me co ls S hK hP hD hE hS hr hlk hnm hl => ?_)
  refine lv_aload_n S.1 S.2.1 dX10_surplusBehind_0 rfl (lv_at hl 0 rfl) ?_
  refine g_get (v := .ref (α (k + 1))) S hK hP (hB0 0 _ rfl) rfl inX10 0 (by decide) qw252 rfl dX10_surplusBehind_1 ?_
  refine g_aftR0 (st1 := [.int (f_X7_people nP)]) (g_V (As := []) (rest := []) S mi_X7_people qw765 (c_X7_people l D A w α (k + 1) nums bNames pNames fBoats nB nP (hB0.sub 1 rfl)) hK hP hD hE hS (hB0 1 _ rfl) rfl rfl rfl hl.1 (Nat.le_of_ble_eq_true rfl) rfl rfl ⟨(Nat.le_of_ble_eq_true rfl), (Nat.le_of_ble_eq_true rfl)⟩ ⟨(Nat.le_of_ble_eq_true rfl), (Nat.le_of_ble_eq_true rfl)⟩ dX10_surplusBehind_4) hS rfl (fun locs hS => ?_)
  refine lv_aload_n S.1 S.2.1 dX10_surplusBehind_7 rfl (lv_at hl 0 rfl) ?_
  refine g_get (v := .ref (α (k + 6))) S hK hP (hB0 0 _ rfl) rfl inX10 1 (by decide) qw254 rfl dX10_surplusBehind_8 ?_
  refine g_get (v := .ref (α (k + 7))) S hK hP (hB0 6 _ rfl) rfl inX8 0 (by decide) qw182 rfl dX10_surplusBehind_11 ?_
  refine lv_aload_n S.1 S.2.1 dX10_surplusBehind_14 rfl (lv_at hl 0 rfl) ?_
  refine g_get (v := .ref (α (k + 6))) S hK hP (hB0 0 _ rfl) rfl inX10 1 (by decide) qw254 rfl dX10_surplusBehind_15 ?_
  refine g_get (v := .int day) S hK hP (hB0 6 _ rfl) rfl inX8 4 (by decide) qw195 rfl dX10_surplusBehind_18 ?_
  refine lv_iload_n S.1 S.2.1 dX10_surplusBehind_21 rfl (lv_at hl 1 rfl) ?_
  refine lv_iadd S.1 S.2.1 dX10_surplusBehind_22 ?_
  refine g_aftR0 (st1 := [.int (f_X2_peopleAtSeaOn boatO seaO backB (day + d)), .int (f_X7_people nP)]) (g_V (As := [.int (day + d)]) (rest := [.int (f_X7_people nP)]) S mi_X2_peopleAtSeaOn qw1584 (c_X2_peopleAtSeaOn l D A w α (k + 7) boatO seaO faultO daysO backB sailB (day + d) (hB0.sub 7 rfl)) hK hP hD hE hS (hB0 7 _ rfl) rfl rfl rfl hl.1 (Nat.le_of_ble_eq_true rfl) rfl rfl ⟨(Nat.le_of_ble_eq_true rfl), (Nat.le_of_ble_eq_true rfl)⟩ ⟨(Nat.le_of_ble_eq_true rfl), (Nat.le_of_ble_eq_true rfl)⟩ dX10_surplusBehind_23) hS rfl (fun locs hS => ?_)
  refine lv_isub S.1 S.2.1 dX10_surplusBehind_26 ?_
  refine lv_istore_n (lv' := [(2, .int ((f_X7_people nP) - (f_X2_peopleAtSeaOn boatO seaO backB (day + d)))), (0, .ref (α (k))), (1, .int d)]) S.1 S.2.1 dX10_surplusBehind_27 rfl hl (by decide) rfl (fun ls hl => ?_)
  refine lv_iload_n S.1 S.2.1 dX10_surplusBehind_28 rfl (lv_at hl 0 rfl) ?_
  refine lv_aload_n S.1 S.2.1 dX10_surplusBehind_29 rfl (lv_at hl 1 rfl) ?_
  refine lv_iload_n S.1 S.2.1 dX10_surplusBehind_30 rfl (lv_at hl 2 rfl) ?_
  refine g_aftR0 (st1 := [.int (f_X10_needBehind nums nP day backB d), .int ((f_X7_people nP) - (f_X2_peopleAtSeaOn boatO seaO backB (day + d)))]) (g_V (As := [.int d]) (rest := [.int ((f_X7_people nP) - (f_X2_peopleAtSeaOn boatO seaO backB (day + d)))]) S mi_X10_needBehind qw1588 (c_X10_needBehind l D A w α (k) nums bNames pNames fBoats nB nP day votes isOpen baskets lays recs fneed clos boatO seaO faultO daysO backB sailB plc car bnd bsk dyL rsn pastF pastN logF logN blB blC d hB0) hK hP hD hE hS (hB0 0 _ rfl) rfl rfl rfl hl.1 (Nat.le_of_ble_eq_true rfl) rfl rfl ⟨(Nat.le_of_ble_eq_true rfl), (Nat.le_of_ble_eq_true rfl)⟩ ⟨(Nat.le_of_ble_eq_true rfl), (Nat.le_of_ble_eq_true rfl)⟩ dX10_surplusBehind_31) hS rfl (fun locs hS => ?_)
  refine lv_isub S.1 S.2.1 dX10_surplusBehind_34 ?_
  have hf : (f_X10_surplusBehind nums nP day boatO seaO backB d) = (((f_X7_people nP) - (f_X2_peopleAtSeaOn boatO seaO backB (day + d))) - (f_X10_needBehind nums nP day backB d)) := rfl
  exact g_iretR S hr hlk hS (by rw [hf] <;> rfl) dX10_surplusBehind_35
def L_X10_bestDayUpTo_11 (nums : Nat → Int32) (nP : Int32) (day : Int32) (boatO : Nat → Int32) (seaO : Nat → Int32) (backB : Nat → Int32) : Nat → Int32 × Int32 := iter_ (fun n sn => (if (f_X10_surplusBehind nums nP day boatO seaO backB (nI (n + 1))) ≤ sn.1 then (sn.1, sn.2) else ((f_X10_surplusBehind nums nP day boatO seaO backB (nI (n + 1))), (nI (n + 1))))) ((f_X10_surplusBehind nums nP day boatO seaO backB 0), 0)
def f_X10_bestDayUpTo (nums : Nat → Int32) (nP : Int32) (day : Int32) (boatO : Nat → Int32) (seaO : Nat → Int32) (backB : Nat → Int32) (d : Int32) : Int32 := (L_X10_bestDayUpTo_11 nums nP day boatO seaO backB (min d.toNatClampNeg 99)).2
set_option maxHeartbeats 4000000 in
set_option maxRecDepth 100000 in
theorem c_X10_bestDayUpTo (l : Launch) (D : va_G) (A : Nat → Prop) (w : va_W) (α : Nat → Nat) (k : Nat) (nums : Nat → Int32) (bNames : Nat → Int32) (pNames : Nat → Int32) (fBoats : Nat → Int32) (nB : Int32) (nP : Int32) (day : Int32) (votes : Int32) (isOpen : Int32) (baskets : Int32) (lays : Int32) (recs : Int32) (fneed : Int32) (clos : Int32) (boatO : Nat → Int32) (seaO : Nat → Int32) (faultO : Nat → Int32) (daysO : Nat → Int32) (backB : Nat → Int32) (sailB : Nat → Int32) (plc : Nat → Int32) (car : Nat → Int32) (bnd : Nat → Int32) (bsk : Nat → Int32) (dyL : Nat → Int32) (rsn : Nat → Int32) (pastF : Nat → Int32) (pastN : Int32) (logF : Nat → Int32) (logN : Int32) (blB : Nat → Int32) (blC : Nat → Int32) (d : Int32) (hB0 : Blk w k (cVil D α k nums bNames pNames fBoats nB nP day votes isOpen baskets lays recs fneed clos boatO seaO faultO daysO backB sailB plc car bnd bsk dyL rsn pastF pastN logF logN blB blC)) : Met l yX10_bestDayUpTo (ws_ yX10_bestDayUpTo cX10_bestDayUpTo 6 (some .int)) ({ frames := 6, cells := 0, slots := 0, locals := 133 }) (gPre D A [.ref (α (k)), .int d] w) (gR (some (.int (f_X10_bestDayUpTo nums nP day boatO seaO backB d)))) 0 0 A := by
  refine g_met [(0, .ref (α (k))), (1, .int d)] (plainFor_of_name (by decide)) (Nat.le_of_ble_eq_true rfl) rfl (fun pg en s mi ar below me co ls S hK hP hD hE hS hr hlk hnm hl => ?_)
  refine lv_iconst (v := 0) S.1 S.2.1 dX10_bestDayUpTo_0 (by decide) ?_
  refine lv_istore_n (lv' := [(2, .int 0), (0, .ref (α (k))), (1, .int d)]) S.1 S.2.1 dX10_bestDayUpTo_1 rfl hl (by decide) rfl (fun ls hl => ?_)
  refine lv_aload_n S.1 S.2.1 dX10_bestDayUpTo_2 rfl (lv_at hl 1 rfl) ?_
  refine lv_iconst (v := 0) S.1 S.2.1 dX10_bestDayUpTo_3 (by decide) ?_
  refine g_aftR0 (st1 := [.int (f_X10_surplusBehind nums nP day boatO seaO backB 0)]) (g_V (As := [.int 0]) (rest := []) S mi_X10_surplusBehind qw1580 (c_X10_surplusBehind l D A w α (k) nums bNames pNames fBoats nB nP day votes isOpen baskets lays recs fneed clos boatO seaO faultO daysO backB sailB plc car bnd bsk dyL rsn pastF pastN logF logN blB blC 0 hB0) hK hP hD hE hS (hB0 0 _ rfl) rfl rfl rfl hl.1 (Nat.le_of_ble_eq_true rfl) rfl rfl ⟨(Nat.le_of_ble_eq_true rfl), (Nat.le_of_ble_eq_true rfl)⟩ ⟨(Nat.le_of_ble_eq_true rfl), (Nat.le_of_ble_eq_true rfl)⟩ dX10_bestDayUpTo_4) hS rfl (fun locs hS => ?_)
  refine lv_istore_n (lv' := [(3, .int (f_X10_surplusBehind nums nP day boatO seaO backB 0)), (2, .int 0), (0, .ref (α (k))), (1, .int d)]) S.1 S.2.1 dX10_bestDayUpTo_7 rfl hl (by decide) rfl (fun ls hl => ?_)
  refine lv_iconst (v := 1) S.1 S.2.1 dX10_bestDayUpTo_8 (by decide) ?_
  refine lv_istore (lv' := [(4, .int 1), (3, .int (f_X10_surplusBehind nums nP day boatO seaO backB 0)), (2, .int 0), (0, .ref (α (k))), (1, .int d)]) S.1 S.2.1 dX10_bestDayUpTo_9 hl (by decide) rfl (fun ls hl => ?_)
  have lp11 : ∀ (j n : Nat), n + j = (min d.toNatClampNeg 99) → ∀ (locs : List Loc) (ls : Array Slot), va_S A s.heap s.heap locs → lv_has ls 6 [(4, .int (nI (n + 1))), (3, .int ((L_X10_bestDayUpTo_11 nums nP day boatO seaO backB n).1)), (2, .int ((L_X10_bestDayUpTo_11 nums nP day boatO seaO backB n).2)), (0, .ref (α (k))), (1, .int d)] → W pg l en ({ frames := 6, cells := 0, slots := 0, locals := 133 } : Room) s mi ar below me co s.heap locs 0 0 (MQ below (gR (some (.int (f_X10_bestDayUpTo nums nP day boatO seaO backB d)))) ar s 0 0 A) (F0 mi 11 ls []) := by
    intro j
    induction j with
    | zero =>
      intro n hn locs ls hS hl
      have hn : (min d.toNatClampNeg 99) = n := hn.symm
      subst hn
      refine lv_iload S.1 S.2.1 dX10_bestDayUpTo_11 (lv_at hl 0 rfl) ?_
      refine lv_iload_n S.1 S.2.1 dX10_bestDayUpTo_13 rfl (lv_at hl 4 rfl) ?_
      refine lv_icmp_gt (tgt := 50) S.1 S.2.1 dX10_bestDayUpTo_14 (by decide) (fun (c1 : d < (nI ((min d.toNatClampNeg 99) + 1))) => ?_) (fun (c1 : ¬ d < (nI ((min d.toNatClampNeg 99) + 1))) => ?_)
      · refine lv_iload_n S.1 S.2.1 dX10_bestDayUpTo_50 rfl (lv_at hl 2 rfl) ?_
        have hf : (f_X10_bestDayUpTo nums nP day boatO seaO backB d) = (L_X10_bestDayUpTo_11 nums nP day boatO seaO backB (min d.toNatClampNeg 99)).2 := rfl
        exact g_iretR S hr hlk hS (by rw [hf] <;> rfl) dX10_bestDayUpTo_51
      · refine lv_iload S.1 S.2.1 dX10_bestDayUpTo_17 (lv_at hl 0 rfl) ?_
        refine lv_bipush (v := 99) S.1 S.2.1 dX10_bestDayUpTo_19 (by decide) ?_
        refine lv_icmp_gt (tgt := 50) S.1 S.2.1 dX10_bestDayUpTo_21 (by decide) (fun (c2 : 99 < (nI ((min d.toNatClampNeg 99) + 1))) => ?_) (fun (c2 : ¬ 99 < (nI ((min d.toNatClampNeg 99) + 1))) => absurd c2 (bd_out (by assumption)))
        refine lv_iload_n S.1 S.2.1 dX10_bestDayUpTo_50 rfl (lv_at hl 2 rfl) ?_
        have hf : (f_X10_bestDayUpTo nums nP day boatO seaO backB d) = (L_X10_bestDayUpTo_11 nums nP day boatO seaO backB (min d.toNatClampNeg 99)).2 := rfl
        exact g_iretR S hr hlk hS (by rw [hf] <;> rfl) dX10_bestDayUpTo_51
    | succ j ih =>
      intro n hn locs ls hS hl
      refine lv_iload S.1 S.2.1 dX10_bestDayUpTo_11 (lv_at hl 0 rfl) ?_
      refine lv_iload_n S.1 S.2.1 dX10_bestDayUpTo_13 rfl (lv_at hl 4 rfl) ?_
      refine lv_icmp_gt (tgt := 50) S.1 S.2.1 dX10_bestDayUpTo_14 (by decide) (fun (c3 : d < (nI (n + 1))) => absurd c3 (bd_in1 hn)) (fun (c3 : ¬ d < (nI (n + 1))) => ?_)
      refine lv_iload S.1 S.2.1 dX10_bestDayUpTo_17 (lv_at hl 0 rfl) ?_
      refine lv_bipush (v := 99) S.1 S.2.1 dX10_bestDayUpTo_19 (by decide) ?_
      refine lv_icmp_gt (tgt := 50) S.1 S.2.1 dX10_bestDayUpTo_21 (by decide) (fun (c4 : 99 < (nI (n + 1))) => absurd c4 (bd_in2 hn)) (fun (c4 : ¬ 99 < (nI (n + 1))) => ?_)
      refine lv_aload_n S.1 S.2.1 dX10_bestDayUpTo_24 rfl (lv_at hl 3 rfl) ?_
      refine lv_iload S.1 S.2.1 dX10_bestDayUpTo_25 (lv_at hl 0 rfl) ?_
      refine g_aftR0 (st1 := [.int (f_X10_surplusBehind nums nP day boatO seaO backB (nI (n + 1)))]) (g_V (As := [.int (nI (n + 1))]) (rest := []) S mi_X10_surplusBehind qw1580 (c_X10_surplusBehind l D A w α (k) nums bNames pNames fBoats nB nP day votes isOpen baskets lays recs fneed clos boatO seaO faultO daysO backB sailB plc car bnd bsk dyL rsn pastF pastN logF logN blB blC (nI (n + 1)) hB0) hK hP hD hE hS (hB0 0 _ rfl) rfl rfl rfl hl.1 (Nat.le_of_ble_eq_true rfl) rfl rfl ⟨(Nat.le_of_ble_eq_true rfl), (Nat.le_of_ble_eq_true rfl)⟩ ⟨(Nat.le_of_ble_eq_true rfl), (Nat.le_of_ble_eq_true rfl)⟩ dX10_bestDayUpTo_27) hS rfl (fun locs hS => ?_)
      refine lv_istore (lv' := [(5, .int (f_X10_surplusBehind nums nP day boatO seaO backB (nI (n + 1)))), (4, .int (nI (n + 1))), (3, .int ((L_X10_bestDayUpTo_11 nums nP day boatO seaO backB n).1)), (2, .int ((L_X10_bestDayUpTo_11 nums nP day boatO seaO backB n).2)), (0, .ref (α (k))), (1, .int d)]) S.1 S.2.1 dX10_bestDayUpTo_30 hl (by decide) rfl (fun ls hl => ?_)
      refine lv_iload S.1 S.2.1 dX10_bestDayUpTo_32 (lv_at hl 0 rfl) ?_
      refine lv_iload_n S.1 S.2.1 dX10_bestDayUpTo_34 rfl (lv_at hl 2 rfl) ?_
      refine lv_icmp_le (tgt := 44) S.1 S.2.1 dX10_bestDayUpTo_35 (by decide) (fun (c5 : (f_X10_surplusBehind nums nP day boatO seaO backB (nI (n + 1))) ≤ (L_X10_bestDayUpTo_11 nums nP day boatO seaO backB n).1) => ?_) (fun (c5 : ¬ (f_X10_surplusBehind nums nP day boatO seaO backB (nI (n + 1))) ≤ (L_X10_bestDayUpTo_11 nums nP day boatO seaO backB n).1) => ?_)
      · refine lv_iinc (v := (nI (n + 2))) (lv' := [(4, .int (nI (n + 2))), (5, .int (f_X10_surplusBehind nums nP day boatO seaO backB (nI (n + 1)))), (3, .int ((L_X10_bestDayUpTo_11 nums nP day boatO seaO backB n).1)), (2, .int ((L_X10_bestDayUpTo_11 nums nP day boatO seaO backB n).2)), (0, .ref (α (k))), (1, .int d)]) S.1 S.2.1 dX10_bestDayUpTo_44 hl (k := 1) rfl ((nI_succ (n + 1)).symm) (by decide) rfl (fun ls hl => ?_)
        refine lv_goto (tgt := 11) S.1 S.2.1 dX10_bestDayUpTo_47 (by decide) ?_
        have hL : (L_X10_bestDayUpTo_11 nums nP day boatO seaO backB (n + 1)) = ((L_X10_bestDayUpTo_11 nums nP day boatO seaO backB n).1, (L_X10_bestDayUpTo_11 nums nP day boatO seaO backB n).2) := (iter_s _ _ _).trans (if_pos c5)
        refine ih (n + 1) (by omega) _ _ hS ?_
        rw [hL]; exact lv_sub hl [0, 2, 3, 4, 5] rfl
      · refine lv_iload S.1 S.2.1 dX10_bestDayUpTo_38 (lv_at hl 0 rfl) ?_
        refine lv_istore_n (lv' := [(3, .int (f_X10_surplusBehind nums nP day boatO seaO backB (nI (n + 1)))), (5, .int (f_X10_surplusBehind nums nP day boatO seaO backB (nI (n + 1)))), (4, .int (nI (n + 1))), (2, .int ((L_X10_bestDayUpTo_11 nums nP day boatO seaO backB n).2)), (0, .ref (α (k))), (1, .int d)]) S.1 S.2.1 dX10_bestDayUpTo_40 rfl hl (by decide) rfl (fun ls hl => ?_)
        refine lv_iload S.1 S.2.1 dX10_bestDayUpTo_41 (lv_at hl 2 rfl) ?_
        refine lv_istore_n (lv' := [(2, .int (nI (n + 1))), (3, .int (f_X10_surplusBehind nums nP day boatO seaO backB (nI (n + 1)))), (5, .int (f_X10_surplusBehind nums nP day boatO seaO backB (nI (n + 1)))), (4, .int (nI (n + 1))), (0, .ref (α (k))), (1, .int d)]) S.1 S.2.1 dX10_bestDayUpTo_43 rfl hl (by decide) rfl (fun ls hl => ?_)
        refine lv_iinc (v := (nI (n + 2))) (lv' := [(4, .int (nI (n + 2))), (2, .int (nI (n + 1))), (3, .int (f_X10_surplusBehind nums nP day boatO seaO backB (nI (n + 1)))), (5, .int (f_X10_surplusBehind nums nP day boatO seaO backB (nI (n + 1)))), (0, .ref (α (k))), (1, .int d)]) S.1 S.2.1 dX10_bestDayUpTo_44 hl (k := 3) rfl ((nI_succ (n + 1)).symm) (by decide) rfl (fun ls hl => ?_)
        refine lv_goto (tgt := 11) S.1 S.2.1 dX10_bestDayUpTo_47 (by decide) ?_
        have hL : (L_X10_bestDayUpTo_11 nums nP day boatO seaO backB (n + 1)) = ((f_X10_surplusBehind nums nP day boatO seaO backB (nI (n + 1))), (nI (n + 1))) := (iter_s _ _ _).trans (if_neg c5)
        refine ih (n + 1) (by omega) _ _ hS ?_
        rw [hL]; exact lv_sub hl [0, 2, 1, 4, 5] rfl
  have hL0 : (L_X10_bestDayUpTo_11 nums nP day boatO seaO backB 0) = ((f_X10_surplusBehind nums nP day boatO seaO backB 0), 0) := iter_z _ _
  exact lp11 (min d.toNatClampNeg 99) 0 (Nat.zero_add _) _ _ hS (by rw [hL0]; exact lv_sub hl [0, 1, 2, 3, 4] rfl)
def f_X10_reasonFor (nums : Nat → Int32) (seaO : Nat → Int32) (plc : Nat → Int32) (car : Nat → Int32) (bnd : Nat → Int32) (p : Int32) (o : Int32) (b : Int32) : Int32 := (if p = o then 0 else (bif (f_X2_isAtSea seaO o) then (if (f_X9_laidForOthers plc car p) < (f_X7_numberOf nums 7) then (if (f_X9_boundTo bnd o) = (-2) then 0 else (if (f_X9_boundTo bnd o) = b then 0 else 3)) else 2) else 1))
set_option maxHeartbeats 4000000 in
set_option maxRecDepth 100000 in
theorem c_X10_reasonFor (l : Launch) (D : va_G) (A : Nat → Prop) (w : va_W) (α : Nat → Nat) (k : Nat) (nums : Nat → Int32) (bNames : Nat → Int32) (pNames : Nat → Int32) (fBoats : Nat → Int32) (nB : Int32) (nP : Int32) (day : Int32) (votes : Int32) (isOpen : Int32) (baskets : Int32) (lays : Int32) (recs : Int32) (fneed : Int32) (clos : Int32) (boatO : Nat → Int32) (seaO : Nat → Int32) (faultO : Nat → Int32) (daysO : Nat → Int32) (backB : Nat → Int32) (sailB : Nat → Int32) (plc : Nat → Int32) (car : Nat → Int32) (bnd : Nat → Int32) (bsk : Nat → Int32) (dyL : Nat → Int32) (rsn : Nat → Int32) (pastF : Nat → Int32) (pastN : Int32) (logF : Nat → Int32) (logN : Int32) (blB : Nat → Int32) (blC : Nat → Int32) (p : Int32) (o : Int32) (b : Int32) (hB0 : Blk w k (cVil D α k nums bNames pNames fBoats nB nP day votes isOpen baskets lays recs fneed clos boatO seaO faultO daysO backB sailB plc car bnd bsk dyL rsn pastF pastN logF logN blB blC)) : Met l yX10_reasonFor (ws_ yX10_reasonFor cX10_reasonFor 5 (some .int)) ({ frames := 3, cells := 0, slots := 0, locals := 67 }) (gPre D A [.ref (α (k)), .int p, .int o, .int b] w) (gR (some (.int (f_X10_reasonFor nums seaO plc car bnd p o b)))) 0 0 A := by
  refine g_met [(0, .ref (α (k))), (1, .int p), (2, .int o), (3, .int b)] (plainFor_of_name (by decide)) (Nat.le_of_ble_eq_true rfl) rfl (fun pg en s mi ar below me co ls S hK hP hD hE hS hr hlk hnm hl => ?_)
  refine lv_iload_n S.1 S.2.1 dX10_reasonFor_0 rfl (lv_at hl 1 rfl) ?_
  refine lv_iload_n S.1 S.2.1 dX10_reasonFor_1 rfl (lv_at hl 2 rfl) ?_
  refine lv_icmp_ne (tgt := 7) S.1 S.2.1 dX10_reasonFor_2 (by decide) (fun (c1 : ¬ p = o) => ?_) (fun (c1 : p = o) => ?_)
  · refine lv_aload_n S.1 S.2.1 dX10_reasonFor_7 rfl (lv_at hl 0 rfl) ?_
    refine g_get (v := .ref (α (k + 6))) S hK hP (hB0 0 _ rfl) rfl inX10 1 (by decide) qw254 rfl dX10_reasonFor_8 ?_
    refine g_get (v := .ref (α (k + 7))) S hK hP (hB0 6 _ rfl) rfl inX8 0 (by decide) qw182 rfl dX10_reasonFor_11 ?_
    refine lv_iload_n S.1 S.2.1 dX10_reasonFor_14 rfl (lv_at hl 2 rfl) ?_
    refine g_aftR0 (st1 := [.int (b2i (f_X2_isAtSea seaO o))]) (g_V (As := [.int o]) (rest := []) S mi_X2_isAtSea qw486 (c_X2_isAtSea l D A w α (k + 7) boatO seaO faultO daysO backB sailB o (hB0.sub 7 rfl)) hK hP hD hE hS (hB0 7 _ rfl) rfl rfl rfl hl.1 (Nat.le_of_ble_eq_true rfl) rfl rfl ⟨(Nat.le_of_ble_eq_true rfl), (Nat.le_of_ble_eq_true rfl)⟩ ⟨(Nat.le_of_ble_eq_true rfl), (Nat.le_of_ble_eq_true rfl)⟩ dX10_reasonFor_15) hS rfl (fun locs hS => ?_)
    refine g_bifne (b := (f_X2_isAtSea seaO o)) (tgt := 23) S dX10_reasonFor_18 (by decide) (fun (c2 : (f_X2_isAtSea seaO o) = true) => ?_) (fun (c2 : (f_X2_isAtSea seaO o) = false) => ?_)
    · refine lv_aload_n S.1 S.2.1 dX10_reasonFor_23 rfl (lv_at hl 0 rfl) ?_
      refine g_get (v := .ref (α (k + 6))) S hK hP (hB0 0 _ rfl) rfl inX10 1 (by decide) qw254 rfl dX10_reasonFor_24 ?_
      refine g_get (v := .ref (α (k + 14))) S hK hP (hB0 6 _ rfl) rfl inX8 1 (by decide) qw186 rfl dX10_reasonFor_27 ?_
      refine lv_iload_n S.1 S.2.1 dX10_reasonFor_30 rfl (lv_at hl 1 rfl) ?_
      refine g_aftR0 (st1 := [.int (f_X9_laidForOthers plc car p)]) (g_V (As := [.int p]) (rest := []) S mi_X9_laidForOthers qw1190 (c_X9_laidForOthers l D A w α (k + 14) plc car bnd bsk dyL rsn p (hB0.sub 14 rfl)) hK hP hD hE hS (hB0 14 _ rfl) rfl rfl rfl hl.1 (Nat.le_of_ble_eq_true rfl) rfl rfl ⟨(Nat.le_of_ble_eq_true rfl), (Nat.le_of_ble_eq_true rfl)⟩ ⟨(Nat.le_of_ble_eq_true rfl), (Nat.le_of_ble_eq_true rfl)⟩ dX10_reasonFor_31) hS rfl (fun locs hS => ?_)
      refine lv_aload_n S.1 S.2.1 dX10_reasonFor_34 rfl (lv_at hl 0 rfl) ?_
      refine g_get (v := .ref (α (k + 1))) S hK hP (hB0 0 _ rfl) rfl inX10 0 (by decide) qw252 rfl dX10_reasonFor_35 ?_
      refine lv_bipush (v := 7) S.1 S.2.1 dX10_reasonFor_38 (by decide) ?_
      refine g_aftR0 (st1 := [.int (f_X7_numberOf nums 7), .int (f_X9_laidForOthers plc car p)]) (g_V (As := [.int 7]) (rest := [.int (f_X9_laidForOthers plc car p)]) S mi_X7_numberOf qw733 (c_X7_numberOf l D A w α (k + 1) nums bNames pNames fBoats nB nP 7 (hB0.sub 1 rfl)) hK hP hD hE hS (hB0 1 _ rfl) rfl rfl rfl hl.1 (Nat.le_of_ble_eq_true rfl) rfl rfl ⟨(Nat.le_of_ble_eq_true rfl), (Nat.le_of_ble_eq_true rfl)⟩ ⟨(Nat.le_of_ble_eq_true rfl), (Nat.le_of_ble_eq_true rfl)⟩ dX10_reasonFor_40) hS rfl (fun locs hS => ?_)
      refine lv_icmp_lt (tgt := 48) S.1 S.2.1 dX10_reasonFor_43 (by decide) (fun (c3 : (f_X9_laidForOthers plc car p) < (f_X7_numberOf nums 7)) => ?_) (fun (c3 : ¬ (f_X9_laidForOthers plc car p) < (f_X7_numberOf nums 7)) => ?_)
      · refine lv_aload_n S.1 S.2.1 dX10_reasonFor_48 rfl (lv_at hl 0 rfl) ?_
        refine g_get (v := .ref (α (k + 6))) S hK hP (hB0 0 _ rfl) rfl inX10 1 (by decide) qw254 rfl dX10_reasonFor_49 ?_
        refine g_get (v := .ref (α (k + 14))) S hK hP (hB0 6 _ rfl) rfl inX8 1 (by decide) qw186 rfl dX10_reasonFor_52 ?_
        refine lv_iload_n S.1 S.2.1 dX10_reasonFor_55 rfl (lv_at hl 2 rfl) ?_
        refine g_aftR0 (st1 := [.int (f_X9_boundTo bnd o)]) (g_V (As := [.int o]) (rest := []) S mi_X9_boundTo qw1191 (c_X9_boundTo l D A w α (k + 14) plc car bnd bsk dyL rsn o (hB0.sub 14 rfl)) hK hP hD hE hS (hB0 14 _ rfl) rfl rfl rfl hl.1 (Nat.le_of_ble_eq_true rfl) rfl rfl ⟨(Nat.le_of_ble_eq_true rfl), (Nat.le_of_ble_eq_true rfl)⟩ ⟨(Nat.le_of_ble_eq_true rfl), (Nat.le_of_ble_eq_true rfl)⟩ dX10_reasonFor_56) hS rfl (fun locs hS => ?_)
        refine lv_istore (lv' := [(4, .int (f_X9_boundTo bnd o)), (0, .ref (α (k))), (1, .int p), (2, .int o), (3, .int b)]) S.1 S.2.1 dX10_reasonFor_59 hl (by decide) rfl (fun ls hl => ?_)
        refine lv_iload S.1 S.2.1 dX10_reasonFor_61 (lv_at hl 0 rfl) ?_
        refine lv_bipush (v := (-2)) S.1 S.2.1 dX10_reasonFor_63 (by decide) ?_
        refine lv_icmp_eq (tgt := 74) S.1 S.2.1 dX10_reasonFor_65 (by decide) (fun (c4 : (f_X9_boundTo bnd o) = (-2)) => ?_) (fun (c4 : ¬ (f_X9_boundTo bnd o) = (-2)) => ?_)
        · refine lv_iconst (v := 0) S.1 S.2.1 dX10_reasonFor_74 (by decide) ?_
          refine lv_goto (tgt := 79) S.1 S.2.1 dX10_reasonFor_75 (by decide) ?_
          have hf : (f_X10_reasonFor nums seaO plc car bnd p o b) = 0 := (if_neg c1).trans ((cd_t c2).trans ((if_pos c3).trans (if_pos c4)))
          exact g_iretR S hr hlk hS (by rw [hf] <;> rfl) dX10_reasonFor_79
        · refine lv_iload S.1 S.2.1 dX10_reasonFor_68 (lv_at hl 0 rfl) ?_
          refine lv_iload_n S.1 S.2.1 dX10_reasonFor_70 rfl (lv_at hl 4 rfl) ?_
          refine lv_icmp_ne (tgt := 78) S.1 S.2.1 dX10_reasonFor_71 (by decide) (fun (c5 : ¬ (f_X9_boundTo bnd o) = b) => ?_) (fun (c5 : (f_X9_boundTo bnd o) = b) => ?_)
          · refine lv_iconst (v := 3) S.1 S.2.1 dX10_reasonFor_78 (by decide) ?_
            have hf : (f_X10_reasonFor nums seaO plc car bnd p o b) = 3 := (if_neg c1).trans ((cd_t c2).trans ((if_pos c3).trans ((if_neg c4).trans (if_neg c5))))
            exact g_iretR S hr hlk hS (by rw [hf] <;> rfl) dX10_reasonFor_79
          · refine lv_iconst (v := 0) S.1 S.2.1 dX10_reasonFor_74 (by decide) ?_
            refine lv_goto (tgt := 79) S.1 S.2.1 dX10_reasonFor_75 (by decide) ?_
            have hf : (f_X10_reasonFor nums seaO plc car bnd p o b) = 0 := (if_neg c1).trans ((cd_t c2).trans ((if_pos c3).trans ((if_neg c4).trans (if_pos c5))))
            exact g_iretR S hr hlk hS (by rw [hf] <;> rfl) dX10_reasonFor_79
      · refine lv_iconst (v := 2) S.1 S.2.1 dX10_reasonFor_46 (by decide) ?_
        have hf : (f_X10_reasonFor nums seaO plc car bnd p o b) = 2 := (if_neg c1).trans ((cd_t c2).trans (if_neg c3))
        exact g_iretR S hr hlk hS (by rw [hf] <;> rfl) dX10_reasonFor_47
    · refine lv_iconst (v := 1) S.1 S.2.1 dX10_reasonFor_21 (by decide) ?_
      have hf : (f_X10_reasonFor nums seaO plc car bnd p o b) = 1 := (if_neg c1).trans (cd_f c2)
      exact g_iretR S hr hlk hS (by rw [hf] <;> rfl) dX10_reasonFor_22
  · refine lv_iconst (v := 0) S.1 S.2.1 dX10_reasonFor_5 (by decide) ?_
    have hf : (f_X10_reasonFor nums seaO plc car bnd p o b) = 0 := if_pos c1
    exact g_iretR S hr hlk hS (by rw [hf] <;> rfl) dX10_reasonFor_6
def f_X10_canBeLaid (seaO : Nat → Int32) (plc : Nat → Int32) (car : Nat → Int32) (o : Int32) : Bool := (if (f_X9_placeOf plc o) = 0 then (bif (f_X2_isAtSea seaO o) then false else true) else (if (f_X9_placeOf plc o) = 1 then (bif (f_X2_isAtSea seaO (f_X9_carrierOf car o)) then false else true) else false))
set_option maxHeartbeats 4000000 in
set_option maxRecDepth 100000 in
theorem c_X10_canBeLaid (l : Launch) (D : va_G) (A : Nat → Prop) (w : va_W) (α : Nat → Nat) (k : Nat) (nums : Nat → Int32) (bNames : Nat → Int32) (pNames : Nat → Int32) (fBoats : Nat → Int32) (nB : Int32) (nP : Int32) (day : Int32) (votes : Int32) (isOpen : Int32) (baskets : Int32) (lays : Int32) (recs : Int32) (fneed : Int32) (clos : Int32) (boatO : Nat → Int32) (seaO : Nat → Int32) (faultO : Nat → Int32) (daysO : Nat → Int32) (backB : Nat → Int32) (sailB : Nat → Int32) (plc : Nat → Int32) (car : Nat → Int32) (bnd : Nat → Int32) (bsk : Nat → Int32) (dyL : Nat → Int32) (rsn : Nat → Int32) (pastF : Nat → Int32) (pastN : Int32) (logF : Nat → Int32) (logN : Int32) (blB : Nat → Int32) (blC : Nat → Int32) (o : Int32) (hB0 : Blk w k (cVil D α k nums bNames pNames fBoats nB nP day votes isOpen baskets lays recs fneed clos boatO seaO faultO daysO backB sailB plc car bnd bsk dyL rsn pastF pastN logF logN blB blC)) : Met l yX10_canBeLaid (ws_ yX10_canBeLaid cX10_canBeLaid 3 (some .boolean)) ({ frames := 2, cells := 0, slots := 0, locals := 43 }) (gPre D A [.ref (α (k)), .int o] w) (gR (some (.int (b2i (f_X10_canBeLaid seaO plc car o))))) 0 0 A := by
  refine g_met [(0, .ref (α (k))), (1, .int o)] (plainFor_of_name (by decide)) (Nat.le_of_ble_eq_true rfl) rfl (fun pg en s mi ar below me co ls S hK hP hD hE hS hr hlk hnm hl => ?_)
  refine lv_aload_n S.1 S.2.1 dX10_canBeLaid_0 rfl (lv_at hl 0 rfl) ?_
  refine g_get (v := .ref (α (k + 6))) S hK hP (hB0 0 _ rfl) rfl inX10 1 (by decide) qw254 rfl dX10_canBeLaid_1 ?_
  refine g_get (v := .ref (α (k + 14))) S hK hP (hB0 6 _ rfl) rfl inX8 1 (by decide) qw186 rfl dX10_canBeLaid_4 ?_
  refine lv_iload_n S.1 S.2.1 dX10_canBeLaid_7 rfl (lv_at hl 1 rfl) ?_
  refine g_aftR0 (st1 := [.int (f_X9_placeOf plc o)]) (g_V (As := [.int o]) (rest := []) S mi_X9_placeOf qw1566 (c_X9_placeOf l D A w α (k + 14) plc car bnd bsk dyL rsn o (hB0.sub 14 rfl)) hK hP hD hE hS (hB0 14 _ rfl) rfl rfl rfl hl.1 (Nat.le_of_ble_eq_true rfl) rfl rfl ⟨(Nat.le_of_ble_eq_true rfl), (Nat.le_of_ble_eq_true rfl)⟩ ⟨(Nat.le_of_ble_eq_true rfl), (Nat.le_of_ble_eq_true rfl)⟩ dX10_canBeLaid_8) hS rfl (fun locs hS => ?_)
  refine lv_istore_n (lv' := [(2, .int (f_X9_placeOf plc o)), (0, .ref (α (k))), (1, .int o)]) S.1 S.2.1 dX10_canBeLaid_11 rfl hl (by decide) rfl (fun ls hl => ?_)
  refine lv_iload_n S.1 S.2.1 dX10_canBeLaid_12 rfl (lv_at hl 0 rfl) ?_
  refine lv_if_ne (tgt := 36) S.1 S.2.1 dX10_canBeLaid_13 (by decide) (fun (c1 : ¬ (f_X9_placeOf plc o) = 0) => ?_) (fun (c1 : (f_X9_placeOf plc o) = 0) => ?_)
  · refine lv_iload_n S.1 S.2.1 dX10_canBeLaid_36 rfl (lv_at hl 0 rfl) ?_
    refine lv_iconst (v := 1) S.1 S.2.1 dX10_canBeLaid_37 (by decide) ?_
    refine lv_icmp_ne (tgt := 69) S.1 S.2.1 dX10_canBeLaid_38 (by decide) (fun (c2 : ¬ (f_X9_placeOf plc o) = 1) => ?_) (fun (c2 : (f_X9_placeOf plc o) = 1) => ?_)
    · refine lv_iconst (v := 0) S.1 S.2.1 dX10_canBeLaid_69 (by decide) ?_
      have hf : (f_X10_canBeLaid seaO plc car o) = false := (if_neg c1).trans (if_neg c2)
      exact g_zretR S hr hlk hS rfl (by rw [hf] <;> rfl) dX10_canBeLaid_70
    · refine lv_aload_n S.1 S.2.1 dX10_canBeLaid_41 rfl (lv_at hl 1 rfl) ?_
      refine g_get (v := .ref (α (k + 6))) S hK hP (hB0 0 _ rfl) rfl inX10 1 (by decide) qw254 rfl dX10_canBeLaid_42 ?_
      refine g_get (v := .ref (α (k + 7))) S hK hP (hB0 6 _ rfl) rfl inX8 0 (by decide) qw182 rfl dX10_canBeLaid_45 ?_
      refine lv_aload_n S.1 S.2.1 dX10_canBeLaid_48 rfl (lv_at hl 1 rfl) ?_
      refine g_get (v := .ref (α (k + 6))) S hK hP (hB0 0 _ rfl) rfl inX10 1 (by decide) qw254 rfl dX10_canBeLaid_49 ?_
      refine g_get (v := .ref (α (k + 14))) S hK hP (hB0 6 _ rfl) rfl inX8 1 (by decide) qw186 rfl dX10_canBeLaid_52 ?_
      refine lv_iload_n S.1 S.2.1 dX10_canBeLaid_55 rfl (lv_at hl 2 rfl) ?_
      refine g_aftR0 (st1 := [.int (f_X9_carrierOf car o), .ref (α (k + 7))]) (g_V (As := [.int o]) (rest := [.ref (α (k + 7))]) S mi_X9_carrierOf qw1567 (c_X9_carrierOf l D A w α (k + 14) plc car bnd bsk dyL rsn o (hB0.sub 14 rfl)) hK hP hD hE hS (hB0 14 _ rfl) rfl rfl rfl hl.1 (Nat.le_of_ble_eq_true rfl) rfl rfl ⟨(Nat.le_of_ble_eq_true rfl), (Nat.le_of_ble_eq_true rfl)⟩ ⟨(Nat.le_of_ble_eq_true rfl), (Nat.le_of_ble_eq_true rfl)⟩ dX10_canBeLaid_56) hS rfl (fun locs hS => ?_)
      refine g_aftR0 (st1 := [.int (b2i (f_X2_isAtSea seaO (f_X9_carrierOf car o)))]) (g_V (As := [.int (f_X9_carrierOf car o)]) (rest := []) S mi_X2_isAtSea qw486 (c_X2_isAtSea l D A w α (k + 7) boatO seaO faultO daysO backB sailB (f_X9_carrierOf car o) (hB0.sub 7 rfl)) hK hP hD hE hS (hB0 7 _ rfl) rfl rfl rfl hl.1 (Nat.le_of_ble_eq_true rfl) rfl rfl ⟨(Nat.le_of_ble_eq_true rfl), (Nat.le_of_ble_eq_true rfl)⟩ ⟨(Nat.le_of_ble_eq_true rfl), (Nat.le_of_ble_eq_true rfl)⟩ dX10_canBeLaid_59) hS rfl (fun locs hS => ?_)
      refine g_bifne (b := (f_X2_isAtSea seaO (f_X9_carrierOf car o))) (tgt := 69) S dX10_canBeLaid_62 (by decide) (fun (c3 : (f_X2_isAtSea seaO (f_X9_carrierOf car o)) = true) => ?_) (fun (c3 : (f_X2_isAtSea seaO (f_X9_carrierOf car o)) = false) => ?_)
      · refine lv_iconst (v := 0) S.1 S.2.1 dX10_canBeLaid_69 (by decide) ?_
        have hf : (f_X10_canBeLaid seaO plc car o) = false := (if_neg c1).trans ((if_pos c2).trans (cd_t c3))
        exact g_zretR S hr hlk hS rfl (by rw [hf] <;> rfl) dX10_canBeLaid_70
      · refine lv_iconst (v := 1) S.1 S.2.1 dX10_canBeLaid_65 (by decide) ?_
        refine lv_goto (tgt := 70) S.1 S.2.1 dX10_canBeLaid_66 (by decide) ?_
        have hf : (f_X10_canBeLaid seaO plc car o) = true := (if_neg c1).trans ((if_pos c2).trans (cd_f c3))
        exact g_zretR S hr hlk hS rfl (by rw [hf] <;> rfl) dX10_canBeLaid_70
  · refine lv_aload_n S.1 S.2.1 dX10_canBeLaid_16 rfl (lv_at hl 1 rfl) ?_
    refine g_get (v := .ref (α (k + 6))) S hK hP (hB0 0 _ rfl) rfl inX10 1 (by decide) qw254 rfl dX10_canBeLaid_17 ?_
    refine g_get (v := .ref (α (k + 7))) S hK hP (hB0 6 _ rfl) rfl inX8 0 (by decide) qw182 rfl dX10_canBeLaid_20 ?_
    refine lv_iload_n S.1 S.2.1 dX10_canBeLaid_23 rfl (lv_at hl 2 rfl) ?_
    refine g_aftR0 (st1 := [.int (b2i (f_X2_isAtSea seaO o))]) (g_V (As := [.int o]) (rest := []) S mi_X2_isAtSea qw486 (c_X2_isAtSea l D A w α (k + 7) boatO seaO faultO daysO backB sailB o (hB0.sub 7 rfl)) hK hP hD hE hS (hB0 7 _ rfl) rfl rfl rfl hl.1 (Nat.le_of_ble_eq_true rfl) rfl rfl ⟨(Nat.le_of_ble_eq_true rfl), (Nat.le_of_ble_eq_true rfl)⟩ ⟨(Nat.le_of_ble_eq_true rfl), (Nat.le_of_ble_eq_true rfl)⟩ dX10_canBeLaid_24) hS rfl (fun locs hS => ?_)
    refine g_bifne (b := (f_X2_isAtSea seaO o)) (tgt := 34) S dX10_canBeLaid_27 (by decide) (fun (c4 : (f_X2_isAtSea seaO o) = true) => ?_) (fun (c4 : (f_X2_isAtSea seaO o) = false) => ?_)
    · refine lv_iconst (v := 0) S.1 S.2.1 dX10_canBeLaid_34 (by decide) ?_
      have hf : (f_X10_canBeLaid seaO plc car o) = false := (if_pos c1).trans (cd_t c4)
      exact g_zretR S hr hlk hS rfl (by rw [hf] <;> rfl) dX10_canBeLaid_35
    · refine lv_iconst (v := 1) S.1 S.2.1 dX10_canBeLaid_30 (by decide) ?_
      refine lv_goto (tgt := 35) S.1 S.2.1 dX10_canBeLaid_31 (by decide) ?_
      have hf : (f_X10_canBeLaid seaO plc car o) = true := (if_pos c1).trans (cd_f c4)
      exact g_zretR S hr hlk hS rfl (by rw [hf] <;> rfl) dX10_canBeLaid_35
def L_X10_mightOf_17 (seaO : Nat → Int32) (plc : Nat → Int32) (car : Nat → Int32) (p : Int32) : Nat → Int32 := iter_ (fun n sn => (if (((f_X9_carriedBy plc car p) >>> ((nI n) &&& 31)) &&& 1) = 0 then sn else (bif (f_X2_isAtSea seaO (nI n)) then (sn + 1) else sn))) 0
def f_X10_mightOf (nums : Nat → Int32) (isOpen : Int32) (seaO : Nat → Int32) (plc : Nat → Int32) (car : Nat → Int32) (p : Int32) : Int32 := (bif tb isOpen then ((if (f_X7_numberOf nums 7) < (L_X10_mightOf_17 seaO plc car p 20) then (f_X7_numberOf nums 7) else (L_X10_mightOf_17 seaO plc car p 20)) - (f_X9_laidForOthers plc car p)) else (if (f_X7_numberOf nums 7) < (L_X10_mightOf_17 seaO plc car p 20) then (f_X7_numberOf nums 7) else (L_X10_mightOf_17 seaO plc car p 20)))
def L_X10_mightiestCarrier_7 (nums : Nat → Int32) (isOpen : Int32) (seaO : Nat → Int32) (plc : Nat → Int32) (car : Nat → Int32) : Nat → Int32 × Int32 := iter_ (fun n sn => (bif (f_X2_isAtSea seaO (nI n)) then (sn.1, sn.2) else (if (f_X10_mightOf nums isOpen seaO plc car (nI n)) ≤ sn.1 then (sn.1, sn.2) else ((f_X10_mightOf nums isOpen seaO plc car (nI n)), (nI n))))) (0, (-2))
def f_X10_mightiestCarrier (nums : Nat → Int32) (nP : Int32) (isOpen : Int32) (seaO : Nat → Int32) (plc : Nat → Int32) (car : Nat → Int32) : Int32 := (L_X10_mightiestCarrier_7 nums isOpen seaO plc car ((f_X7_people nP).toNatClampNeg)).2
