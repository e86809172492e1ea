noncomputable def S_X11_canWin_35 (nums : Nat → Int32) (nP : Int32) (day : Int32) (votes : Int32) (isOpen : Int32) (fneed : Int32) (seaO : Nat → Int32) (backB : Nat → Int32) (plc : Nat → Int32) (car : Nat → Int32) (bsk : Nat → Int32) (blB : Nat → Int32) (blC : Nat → Int32) (x : Int32) : Int32 × (Nat → Int32) × (Nat → Int32) := (f_X10_resultWithAllInto nums nP day votes isOpen fneed seaO backB plc car bsk blB blC x)
noncomputable def f_X11_canWin (nums : Nat → Int32) (nP : Int32) (day : Int32) (votes : Int32) (isOpen : Int32) (baskets : Int32) (fneed : Int32) (seaO : Nat → Int32) (backB : Nat → Int32) (plc : Nat → Int32) (car : Nat → Int32) (bsk : Nat → Int32) (blB : Nat → Int32) (blC : Nat → Int32) (x : Int32) : Bool × (Nat → Int32) × (Nat → Int32) := (bif (f_X11_isBasket x) then (bif (tb isOpen) then (if x < baskets then (if (S_X11_canWin_35 nums nP day votes isOpen fneed seaO backB plc car bsk blB blC x).1 = x then (true, (S_X11_canWin_35 nums nP day votes isOpen fneed seaO backB plc car bsk blB blC x).2.1, (S_X11_canWin_35 nums nP day votes isOpen fneed seaO backB plc car bsk blB blC x).2.2) else (false, (S_X11_canWin_35 nums nP day votes isOpen fneed seaO backB plc car bsk blB blC x).2.1, (S_X11_canWin_35 nums nP day votes isOpen fneed seaO backB plc car bsk blB blC x).2.2)) else (false, blB, blC)) else (false, blB, blC)) else (false, blB, blC))
set_option maxHeartbeats 4000000 in
set_option maxRecDepth 100000 in
theorem c_X11_canWin (l : Launch) (D : va_G) (A : Nat → Prop) (w : va_W) (α : Nat → Nat) (err : Int32) (pk : Int32) (pst : Int32) (pe : Int32) (tp : Nat → Int32) (tl : Int32) (dnums : Nat → Int32) (dbNames : Nat → Int32) (dpNames : Nat → Int32) (dfBoats : Nat → Int32) (dnB : Int32) (dnP : Int32) (nums : Nat → Int32) (bNames : Nat → Int32) (pNames : Nat → Int32) (fBoats : Nat → Int32) (nB : Int32) (nP : Int32) (day : Int32) (votes : Int32) (isOpen : Int32) (baskets : Int32) (lays : Int32) (recs : Int32) (fneed : Int32) (clos : Int32) (boatO : Nat → Int32) (seaO : Nat → Int32) (faultO : Nat → Int32) (daysO : Nat → Int32) (backB : Nat → Int32) (sailB : Nat → Int32) (plc : Nat → Int32) (car : Nat → Int32) (bnd : Nat → Int32) (bsk : Nat → Int32) (dyL : Nat → Int32) (rsn : Nat → Int32) (pastF : Nat → Int32) (pastN : Int32) (logF : Nat → Int32) (logN : Int32) (blB : Nat → Int32) (blC : Nat → Int32) (hsN : Int32) (hsX : Int32) (hsF : Nat → StT) (kpF : Nat → StT) (kpZ : Nat → Int32) (tx : Nat → Int32) (txl : Int32) (x : Int32) (hV : SVW D α w err pk pst pe tp tl dnums dbNames dpNames dfBoats dnB dnP nums bNames pNames fBoats nB nP day votes isOpen baskets lays recs fneed clos boatO seaO faultO daysO backB sailB plc car bnd bsk dyL rsn pastF pastN logF logN blB blC hsN hsX hsF kpF kpZ tx txl) : Met l yX11_canWin (ws_ yX11_canWin cX11_canWin 2 (some .boolean)) ({ frames := 6, cells := 0, slots := 0, locals := 131 }) (gPre D A [.ref (α (0)), .int x] w) (gQ D A (some (.int (b2i (f_X11_canWin nums nP day votes isOpen baskets fneed seaO backB plc car bsk blB blC x).1))) (fun w1 => SVW D α w1 err pk pst pe tp tl dnums dbNames dpNames dfBoats dnB dnP nums bNames pNames fBoats nB nP day votes isOpen baskets lays recs fneed clos boatO seaO faultO daysO backB sailB plc car bnd bsk dyL rsn pastF pastN logF logN ((f_X11_canWin nums nP day votes isOpen baskets fneed seaO backB plc car bsk blB blC x).2.1) ((f_X11_canWin nums nP day votes isOpen baskets fneed seaO backB plc car bsk blB blC x).2.2) hsN hsX hsF kpF kpZ tx txl ∧ Same w w1 0 234)) 0 0 A := by
  refine g_met [(0, .ref (α (0))), (1, .int x)] (plainFor_of_name (by decide)) (Nat.le_of_ble_eq_true rfl) rfl (fun pg en s mi ar below me co ls S hK hP hD hE hS hr hlk hnm hl => ?_)
  obtain ⟨hB0, hB1, hB2, hH, hKa, hKs, hB3, hB4⟩ := hV
  have hF : Same w w 0 234 := Same.rf
  refine lv_iload_n S.1 S.2.1 dX11_canWin_0 rfl (lv_at hl 1 rfl) ?_
  refine g_aftR0 (st1 := [.int (b2i (f_X11_isBasket x))]) (g_St (As := [.int x]) (rest := []) S ms_X11_isBasket qw1155 (c_X11_isBasket l D A w α x) hK hP hD hE hS rfl rfl hl.1 (Nat.le_of_ble_eq_true rfl) rfl rfl ⟨(Nat.le_of_ble_eq_true rfl), (Nat.le_of_ble_eq_true rfl)⟩ ⟨(Nat.le_of_ble_eq_true rfl), (Nat.le_of_ble_eq_true rfl)⟩ dX11_canWin_1) hS rfl (fun locs hS => ?_)
  refine g_bifeq (b := (f_X11_isBasket x)) (tgt := 28) S dX11_canWin_4 (by decide) (fun (c1 : (f_X11_isBasket x) = false) => ?_) (fun (c1 : (f_X11_isBasket x) = true) => ?_)
  · refine lv_iconst (v := 0) S.1 S.2.1 dX11_canWin_28 (by decide) ?_
    have hf : (f_X11_canWin nums nP day votes isOpen baskets fneed seaO backB plc car bsk blB blC x) = (false, blB, blC) := cd_f c1
    exact g_zret S hr hlk hP hD hS rfl (by rw [hf] <;> rfl) (by rw [hf]; (try dsimp only); exact ⟨⟨hB0, hB1, hB2, hH, hKa, hKs, hB3, hB4⟩, hF⟩) dX11_canWin_29
  · refine lv_aload_n S.1 S.2.1 dX11_canWin_7 rfl (lv_at hl 0 rfl) ?_
    refine g_get (v := .ref (α (9))) S hK hP (hB0 0 _ rfl) rfl inX11 2 (by decide) qw360 rfl dX11_canWin_8 ?_
    refine g_aftR0 (st1 := [.int (b2i (tb isOpen))]) (g_V (As := []) (rest := []) S mi_X10_isVoteOpen qw393 (c_X10_isVoteOpen l D A w α (9) nums bNames pNames fBoats nB nP day votes isOpen baskets lays recs fneed clos boatO seaO faultO daysO backB sailB plc car bnd bsk dyL rsn pastF pastN logF logN blB blC hB2) hK hP hD hE hS (hB2 0 _ rfl) rfl rfl rfl hl.1 (Nat.le_of_ble_eq_true rfl) rfl rfl ⟨(Nat.le_of_ble_eq_true rfl), (Nat.le_of_ble_eq_true rfl)⟩ ⟨(Nat.le_of_ble_eq_true rfl), (Nat.le_of_ble_eq_true rfl)⟩ dX11_canWin_11) hS rfl (fun locs hS => ?_)
    refine g_bifeq (b := (tb isOpen)) (tgt := 28) S dX11_canWin_14 (by decide) (fun (c2 : (tb isOpen) = false) => ?_) (fun (c2 : (tb isOpen) = true) => ?_)
    · refine lv_iconst (v := 0) S.1 S.2.1 dX11_canWin_28 (by decide) ?_
      have hf : (f_X11_canWin nums nP day votes isOpen baskets fneed seaO backB plc car bsk blB blC x) = (false, blB, blC) := (cd_t c1).trans (cd_f c2)
      exact g_zret S hr hlk hP hD hS rfl (by rw [hf] <;> rfl) (by rw [hf]; (try dsimp only); exact ⟨⟨hB0, hB1, hB2, hH, hKa, hKs, hB3, hB4⟩, hF⟩) dX11_canWin_29
    · refine lv_iload_n S.1 S.2.1 dX11_canWin_17 rfl (lv_at hl 1 rfl) ?_
      refine lv_aload_n S.1 S.2.1 dX11_canWin_18 rfl (lv_at hl 0 rfl) ?_
      refine g_get (v := .ref (α (15))) S hK hP (hB0 0 _ rfl) rfl inX11 4 (by decide) qw362 rfl dX11_canWin_19 ?_
      refine g_get (v := .int baskets) S hK hP (hB2 6 _ rfl) rfl inX8 7 (by decide) qw203 rfl dX11_canWin_22 ?_
      refine lv_icmp_lt (tgt := 30) S.1 S.2.1 dX11_canWin_25 (by decide) (fun (c3 : x < baskets) => ?_) (fun (c3 : ¬ x < baskets) => ?_)
      · refine lv_aload_n S.1 S.2.1 dX11_canWin_30 rfl (lv_at hl 0 rfl) ?_
        refine g_get (v := .ref (α (9))) S hK hP (hB0 0 _ rfl) rfl inX11 2 (by decide) qw360 rfl dX11_canWin_31 ?_
        refine lv_iload_n S.1 S.2.1 dX11_canWin_34 rfl (lv_at hl 1 rfl) ?_
        have hNm : (f_X10_resultWithAllInto nums nP day votes isOpen fneed seaO backB plc car bsk blB blC x) = (S_X11_canWin_35 nums nP day votes isOpen fneed seaO backB plc car bsk blB blC x) := rfl
        have hCon := (c_X10_resultWithAllInto l D A w α (9) nums bNames pNames fBoats nB nP day votes isOpen baskets lays recs fneed clos boatO seaO faultO daysO backB sailB plc car bnd bsk dyL rsn pastF pastN logF logN blB blC x hB2)
        rw [hNm] at hCon
        refine g_aft0 (st1 := [.int ((S_X11_canWin_35 nums nP day votes isOpen fneed seaO backB plc car bsk blB blC x).1)]) (g_V (As := [.int x]) (rest := []) S mi_X10_resultWithAllInto qw1558 hCon hK hP hD hE hS (hB2 0 _ rfl) rfl rfl rfl hl.1 (Nat.le_of_ble_eq_true rfl) rfl rfl ⟨(Nat.le_of_ble_eq_true rfl), (Nat.le_of_ble_eq_true rfl)⟩ ⟨(Nat.le_of_ble_eq_true rfl), (Nat.le_of_ble_eq_true rfl)⟩ dX11_canWin_35) hS rfl (fun w1 H locs hQ hP hD hS => ?_)
        have hF := Same.call hF 9 hQ.2 (Nat.le_of_ble_eq_true rfl)
        have hB2 : Blk w1 9 (cVil D α 9 nums bNames pNames fBoats nB nP day votes isOpen baskets lays recs fneed clos boatO seaO faultO daysO backB sailB plc car bnd bsk dyL rsn pastF pastN logF logN ((S_X11_canWin_35 nums nP day votes isOpen fneed seaO backB plc car bsk blB blC x).2.1) ((S_X11_canWin_35 nums nP day votes isOpen fneed seaO backB plc car bsk blB blC x).2.2)) := hQ.1
        have hB0 := hB0.other hQ.2 (Or.inl (Nat.le_of_ble_eq_true rfl))
        have hB1 := hB1.other hQ.2 (Or.inl (Nat.le_of_ble_eq_true rfl))
        have hB3 := hB3.other hQ.2 (Or.inr (Nat.le_of_ble_eq_true rfl))
        have hB4 := hB4.other hQ.2 (Or.inr (Nat.le_of_ble_eq_true rfl))
        have hH := hH.other hQ.2 (Or.inr (Nat.le_of_ble_eq_true rfl))
        have hKa := ((hQ.2).2 191 (Or.inr (Nat.le_of_ble_eq_true rfl))).trans hKa
        have hKs := hKs.other hQ.2 (Or.inr (Nat.le_of_ble_eq_true rfl))
        refine lv_iload_n S.1 S.2.1 dX11_canWin_38 rfl (lv_at hl 1 rfl) ?_
        refine lv_icmp_ne (tgt := 46) S.1 S.2.1 dX11_canWin_39 (by decide) (fun (c4 : ¬ (S_X11_canWin_35 nums nP day votes isOpen fneed seaO backB plc car bsk blB blC x).1 = x) => ?_) (fun (c4 : (S_X11_canWin_35 nums nP day votes isOpen fneed seaO backB plc car bsk blB blC x).1 = x) => ?_)
        · refine lv_iconst (v := 0) S.1 S.2.1 dX11_canWin_46 (by decide) ?_
          have hf : (f_X11_canWin nums nP day votes isOpen baskets fneed seaO backB plc car bsk blB blC x) = (false, (S_X11_canWin_35 nums nP day votes isOpen fneed seaO backB plc car bsk blB blC x).2.1, (S_X11_canWin_35 nums nP day votes isOpen fneed seaO backB plc car bsk blB blC x).2.2) := (cd_t c1).trans ((cd_t c2).trans ((if_pos c3).trans (if_neg c4)))
          exact g_zret S hr hlk hP hD hS rfl (by rw [hf] <;> rfl) (by rw [hf]; (try dsimp only); exact ⟨⟨hB0, hB1, hB2, hH, hKa, hKs, hB3, hB4⟩, hF⟩) dX11_canWin_47
        · refine lv_iconst (v := 1) S.1 S.2.1 dX11_canWin_42 (by decide) ?_
          refine lv_goto (tgt := 47) S.1 S.2.1 dX11_canWin_43 (by decide) ?_
          have hf : (f_X11_canWin nums nP day votes isOpen baskets fneed seaO backB plc car bsk blB blC x) = (true, (S_X11_canWin_35 nums nP day votes isOpen fneed seaO backB plc car bsk blB blC x).2.1, (S_X11_canWin_35 nums nP day votes isOpen fneed seaO backB plc car bsk blB blC x).2.2) := (cd_t c1).trans ((cd_t c2).trans ((if_pos c3).trans (if_pos c4)))
          exact g_zret S hr hlk hP hD hS rfl (by rw [hf] <;> rfl) (by rw [hf]; (try dsimp only); exact ⟨⟨hB0, hB1, hB2, hH, hKa, hKs, hB3, hB4⟩, hF⟩) dX11_canWin_47
      · refine lv_iconst (v := 0) S.1 S.2.1 dX11_canWin_28 (by decide) ?_
        have hf : (f_X11_canWin nums nP day votes isOpen baskets fneed seaO backB plc car bsk blB blC x) = (false, blB, blC) := (cd_t c1).trans ((cd_t c2).trans (if_neg c3))
        exact g_zret S hr hlk hP hD hS rfl (by rw [hf] <;> rfl) (by rw [hf]; (try dsimp only); exact ⟨⟨hB0, hB1, hB2, hH, hKa, hKs, hB3, hB4⟩, hF⟩) dX11_canWin_29
