noncomputable def S_X11_append_23 (tp : Nat → Int32) (tl : Int32) (x1 : Int32) : (Nat → Int32) × Int32 := (f_X1_addWhole 800 tp tl x1)
noncomputable def S_X11_append_31 (tp : Nat → Int32) (tl : Int32) (x1 : Int32) (x2 : Int32) : (Nat → Int32) × Int32 := (f_X1_addWhole 800 ((S_X11_append_23 tp tl x1).1) ((S_X11_append_23 tp tl x1).2) x2)
noncomputable def S_X11_append_39 (tp : Nat → Int32) (tl : Int32) (x1 : Int32) (x2 : Int32) (x3 : Int32) : (Nat → Int32) × Int32 := (f_X1_addWhole 800 ((S_X11_append_31 tp tl x1 x2).1) ((S_X11_append_31 tp tl x1 x2).2) x3)
noncomputable def S_X11_append_48 (tp : Nat → Int32) (tl : Int32) (x1 : Int32) (x2 : Int32) (x3 : Int32) (x4 : Int32) : (Nat → Int32) × Int32 := (f_X1_addWhole 800 ((S_X11_append_39 tp tl x1 x2 x3).1) ((S_X11_append_39 tp tl x1 x2 x3).2) x4)
noncomputable def S_X11_append_57 (tp : Nat → Int32) (tl : Int32) (x1 : Int32) (x2 : Int32) (x3 : Int32) (x4 : Int32) (x5 : Int32) : (Nat → Int32) × Int32 := (f_X1_addWhole 800 ((S_X11_append_48 tp tl x1 x2 x3 x4).1) ((S_X11_append_48 tp tl x1 x2 x3 x4).2) x5)
noncomputable def f_X11_append (tp : Nat → Int32) (tl : Int32) (x1 : Int32) (x2 : Int32) (x3 : Int32) (x4 : Int32) (x5 : Int32) : Int32 × Int32 × (Nat → Int32) := (if (tl + 20) ≤ 800 then (((S_X11_append_57 tp tl x1 x2 x3 x4 x5).2), (S_X11_append_57 tp tl x1 x2 x3 x4 x5).2, (S_X11_append_57 tp tl x1 x2 x3 x4 x5).1) else ((-1), tl, tp))
set_option maxHeartbeats 4000000 in
set_option maxRecDepth 100000 in
theorem c_X11_append (l : Launch) (D : va_G) (A : Nat → Prop) (w : va_W) (α : Nat → Nat) (err : Int32) (pk : Int32) (pst : Int32) (pe : Int32) (tp : Nat → Int32) (tl : Int32) (dnums : Nat → Int32) (dbNames : Nat → Int32) (dpNames : Nat → Int32) (dfBoats : Nat → Int32) (dnB : Int32) (dnP : Int32) (nums : Nat → Int32) (bNames : Nat → Int32) (pNames : Nat → Int32) (fBoats : Nat → Int32) (nB : Int32) (nP : Int32) (day : Int32) (votes : Int32) (isOpen : Int32) (baskets : Int32) (lays : Int32) (recs : Int32) (fneed : Int32) (clos : Int32) (boatO : Nat → Int32) (seaO : Nat → Int32) (faultO : Nat → Int32) (daysO : Nat → Int32) (backB : Nat → Int32) (sailB : Nat → Int32) (plc : Nat → Int32) (car : Nat → Int32) (bnd : Nat → Int32) (bsk : Nat → Int32) (dyL : Nat → Int32) (rsn : Nat → Int32) (pastF : Nat → Int32) (pastN : Int32) (logF : Nat → Int32) (logN : Int32) (blB : Nat → Int32) (blC : Nat → Int32) (hsN : Int32) (hsX : Int32) (hsF : Nat → StT) (kpF : Nat → StT) (kpZ : Nat → Int32) (tx : Nat → Int32) (txl : Int32) (x1 : Int32) (x2 : Int32) (x3 : Int32) (x4 : Int32) (x5 : Int32) (hV : SVW D α w err pk pst pe tp tl dnums dbNames dpNames dfBoats dnB dnP nums bNames pNames fBoats nB nP day votes isOpen baskets lays recs fneed clos boatO seaO faultO daysO backB sailB plc car bnd bsk dyL rsn pastF pastN logF logN blB blC hsN hsX hsF kpF kpZ tx txl) : Met l yX11_append (ws_ yX11_append cX11_append 6 (some .int)) ({ frames := 2, cells := 0, slots := 0, locals := 43 }) (gPre D A [.ref (α (0)), .int x1, .int x2, .int x3, .int x4, .int x5] w) (gQ D A (some (.int (f_X11_append tp tl x1 x2 x3 x4 x5).1)) (fun w1 => SVW D α w1 err pk pst pe ((f_X11_append tp tl x1 x2 x3 x4 x5).2.2) ((f_X11_append tp tl x1 x2 x3 x4 x5).2.1) dnums dbNames dpNames dfBoats dnB dnP nums bNames pNames fBoats nB nP day votes isOpen baskets lays recs fneed clos boatO seaO faultO daysO backB sailB plc car bnd bsk dyL rsn pastF pastN logF logN blB blC hsN hsX hsF kpF kpZ tx txl ∧ Same w w1 0 234)) 0 0 A := by
  refine g_met [(0, .ref (α (0))), (1, .int x1), (2, .int x2), (3, .int x3), (4, .int x4), (5, .int x5)] (plainFor_of_name (by decide)) (Nat.le_of_ble_eq_true rfl) rfl (fun pg en s mi ar below me co ls S hK hP hD hE hS hr hlk hnm hl => ?_)
  obtain ⟨hB0, hB1, hB2, hH, hKa, hKs, hB3, hB4⟩ := hV
  have hF : Same w w 0 234 := Same.rf
  refine lv_aload_n S.1 S.2.1 dX11_append_0 rfl (lv_at hl 0 rfl) ?_
  refine g_get (v := .ref (α (2))) S hK hP (hB0 0 _ rfl) rfl inX11 1 (by decide) qw359 rfl dX11_append_1 ?_
  refine g_aftR0 (st1 := [.int tl]) (g_V (As := []) (rest := []) S mi_X1_length qw528 (c_X1_length l D A w α (2) 800 tp tl (hB1.sub 1 rfl)) hK hP hD hE hS (hB1 1 _ rfl) rfl rfl rfl hl.1 (Nat.le_of_ble_eq_true rfl) rfl rfl ⟨(Nat.le_of_ble_eq_true rfl), (Nat.le_of_ble_eq_true rfl)⟩ ⟨(Nat.le_of_ble_eq_true rfl), (Nat.le_of_ble_eq_true rfl)⟩ dX11_append_4) hS rfl (fun locs hS => ?_)
  refine lv_bipush (v := 20) S.1 S.2.1 dX11_append_7 (by decide) ?_
  refine lv_iadd S.1 S.2.1 dX11_append_9 ?_
  refine lv_sipush (v := 800) S.1 S.2.1 dX11_append_10 (by decide) ?_
  refine lv_icmp_le (tgt := 18) S.1 S.2.1 dX11_append_13 (by decide) (fun (c1 : (tl + 20) ≤ 800) => ?_) (fun (c1 : ¬ (tl + 20) ≤ 800) => ?_)
  · refine lv_aload_n S.1 S.2.1 dX11_append_18 rfl (lv_at hl 0 rfl) ?_
    refine g_get (v := .ref (α (2))) S hK hP (hB0 0 _ rfl) rfl inX11 1 (by decide) qw359 rfl dX11_append_19 ?_
    refine lv_iload_n S.1 S.2.1 dX11_append_22 rfl (lv_at hl 1 rfl) ?_
    have hNm : (f_X1_addWhole 800 tp tl x1) = (S_X11_append_23 tp tl x1) := rfl
    have hCon := (c_X1_addWhole l D A w α (2) 800 tp tl x1 (hB1.sub 1 rfl) (Nat.le_of_ble_eq_true rfl))
    rw [hNm] at hCon
    refine g_aft0 (st1 := []) (g_V (As := [.int x1]) (rest := []) S mi_X1_addWhole qw592 hCon hK hP hD hE hS (hB1 1 _ rfl) rfl rfl rfl hl.1 (Nat.le_of_ble_eq_true rfl) rfl rfl ⟨(Nat.le_of_ble_eq_true rfl), (Nat.le_of_ble_eq_true rfl)⟩ ⟨(Nat.le_of_ble_eq_true rfl), (Nat.le_of_ble_eq_true rfl)⟩ dX11_append_23) hS rfl (fun w1 H locs hQ hP hD hS => ?_)
    have hF := Same.call hF 2 hQ.2 (Nat.le_of_ble_eq_true rfl)
    have hB1 : Blk w1 1 (cParser D α 1 pk pst pe ((S_X11_append_23 tp tl x1).1) ((S_X11_append_23 tp tl x1).2) dnums dbNames dpNames dfBoats dnB dnP) := hB1.splice 1 hQ.1 hQ.2 rfl (Nat.le_of_ble_eq_true rfl)
    have hB0 := hB0.other hQ.2 (Or.inl (Nat.le_of_ble_eq_true rfl))
    have hB2 := hB2.other hQ.2 (Or.inr (Nat.le_of_ble_eq_true rfl))
    have hB3 := hB3.other hQ.2 (Or.inr (Nat.le_of_ble_eq_true rfl))
    have hB4 := hB4.other hQ.2 (Or.inr (Nat.le_of_ble_eq_true rfl))
    have hH := hH.other hQ.2 (Or.inr (Nat.le_of_ble_eq_true rfl))
    have hKa := ((hQ.2).2 191 (Or.inr (Nat.le_of_ble_eq_true rfl))).trans hKa
    have hKs := hKs.other hQ.2 (Or.inr (Nat.le_of_ble_eq_true rfl))
    refine lv_aload_n S.1 S.2.1 dX11_append_26 rfl (lv_at hl 0 rfl) ?_
    refine g_get (v := .ref (α (2))) S hK hP (hB0 0 _ rfl) rfl inX11 1 (by decide) qw359 rfl dX11_append_27 ?_
    refine lv_iload_n S.1 S.2.1 dX11_append_30 rfl (lv_at hl 2 rfl) ?_
    have hNm : (f_X1_addWhole 800 ((S_X11_append_23 tp tl x1).1) ((S_X11_append_23 tp tl x1).2) x2) = (S_X11_append_31 tp tl x1 x2) := rfl
    have hCon := (c_X1_addWhole l D A w1 α (2) 800 ((S_X11_append_23 tp tl x1).1) ((S_X11_append_23 tp tl x1).2) x2 (hB1.sub 1 rfl) (Nat.le_of_ble_eq_true rfl))
    rw [hNm] at hCon
    refine g_aft0 (st1 := []) (g_V (As := [.int x2]) (rest := []) S mi_X1_addWhole qw592 hCon hK hP hD hE hS (hB1 1 _ rfl) rfl rfl rfl hl.1 (Nat.le_of_ble_eq_true rfl) rfl rfl ⟨(Nat.le_of_ble_eq_true rfl), (Nat.le_of_ble_eq_true rfl)⟩ ⟨(Nat.le_of_ble_eq_true rfl), (Nat.le_of_ble_eq_true rfl)⟩ dX11_append_31) hS rfl (fun w2 H locs hQ hP hD hS => ?_)
    have hF := Same.call hF 2 hQ.2 (Nat.le_of_ble_eq_true rfl)
    have hB1 : Blk w2 1 (cParser D α 1 pk pst pe ((S_X11_append_31 tp tl x1 x2).1) ((S_X11_append_31 tp tl x1 x2).2) dnums dbNames dpNames dfBoats dnB dnP) := hB1.splice 1 hQ.1 hQ.2 rfl (Nat.le_of_ble_eq_true rfl)
    have hB0 := hB0.other hQ.2 (Or.inl (Nat.le_of_ble_eq_true rfl))
    have hB2 := hB2.other hQ.2 (Or.inr (Nat.le_of_ble_eq_true rfl))
    have hB3 := hB3.other hQ.2 (Or.inr (Nat.le_of_ble_eq_true rfl))
    have hB4 := hB4.other hQ.2 (Or.inr (Nat.le_of_ble_eq_true rfl))
    have hH := hH.other hQ.2 (Or.inr (Nat.le_of_ble_eq_true rfl))
    have hKa := ((hQ.2).2 191 (Or.inr (Nat.le_of_ble_eq_true rfl))).trans hKa
    have hKs := hKs.other hQ.2 (Or.inr (Nat.le_of_ble_eq_true rfl))
    refine lv_aload_n S.1 S.2.1 dX11_append_34 rfl (lv_at hl 0 rfl) ?_
    refine g_get (v := .ref (α (2))) S hK hP (hB0 0 _ rfl) rfl inX11 1 (by decide) qw359 rfl dX11_append_35 ?_
    refine lv_iload_n S.1 S.2.1 dX11_append_38 rfl (lv_at hl 3 rfl) ?_
    have hNm : (f_X1_addWhole 800 ((S_X11_append_31 tp tl x1 x2).1) ((S_X11_append_31 tp tl x1 x2).2) x3) = (S_X11_append_39 tp tl x1 x2 x3) := rfl
    have hCon := (c_X1_addWhole l D A w2 α (2) 800 ((S_X11_append_31 tp tl x1 x2).1) ((S_X11_append_31 tp tl x1 x2).2) x3 (hB1.sub 1 rfl) (Nat.le_of_ble_eq_true rfl))
    rw [hNm] at hCon
    refine g_aft0 (st1 := []) (g_V (As := [.int x3]) (rest := []) S mi_X1_addWhole qw592 hCon hK hP hD hE hS (hB1 1 _ rfl) rfl rfl rfl hl.1 (Nat.le_of_ble_eq_true rfl) rfl rfl ⟨(Nat.le_of_ble_eq_true rfl), (Nat.le_of_ble_eq_true rfl)⟩ ⟨(Nat.le_of_ble_eq_true rfl), (Nat.le_of_ble_eq_true rfl)⟩ dX11_append_39) hS rfl (fun w3 H locs hQ hP hD hS => ?_)
    have hF := Same.call hF 2 hQ.2 (Nat.le_of_ble_eq_true rfl)
    have hB1 : Blk w3 1 (cParser D α 1 pk pst pe ((S_X11_append_39 tp tl x1 x2 x3).1) ((S_X11_append_39 tp tl x1 x2 x3).2) dnums dbNames dpNames dfBoats dnB dnP) := hB1.splice 1 hQ.1 hQ.2 rfl (Nat.le_of_ble_eq_true rfl)
    have hB0 := hB0.other hQ.2 (Or.inl (Nat.le_of_ble_eq_true rfl))
    have hB2 := hB2.other hQ.2 (Or.inr (Nat.le_of_ble_eq_true rfl))
    have hB3 := hB3.other hQ.2 (Or.inr (Nat.le_of_ble_eq_true rfl))
    have hB4 := hB4.other hQ.2 (Or.inr (Nat.le_of_ble_eq_true rfl))
    have hH := hH.other hQ.2 (Or.inr (Nat.le_of_ble_eq_true rfl))
    have hKa := ((hQ.2).2 191 (Or.inr (Nat.le_of_ble_eq_true rfl))).trans hKa
    have hKs := hKs.other hQ.2 (Or.inr (Nat.le_of_ble_eq_true rfl))
    refine lv_aload_n S.1 S.2.1 dX11_append_42 rfl (lv_at hl 0 rfl) ?_
    refine g_get (v := .ref (α (2))) S hK hP (hB0 0 _ rfl) rfl inX11 1 (by decide) qw359 rfl dX11_append_43 ?_
    refine lv_iload S.1 S.2.1 dX11_append_46 (lv_at hl 4 rfl) ?_
    have hNm : (f_X1_addWhole 800 ((S_X11_append_39 tp tl x1 x2 x3).1) ((S_X11_append_39 tp tl x1 x2 x3).2) x4) = (S_X11_append_48 tp tl x1 x2 x3 x4) := rfl
    have hCon := (c_X1_addWhole l D A w3 α (2) 800 ((S_X11_append_39 tp tl x1 x2 x3).1) ((S_X11_append_39 tp tl x1 x2 x3).2) x4 (hB1.sub 1 rfl) (Nat.le_of_ble_eq_true rfl))
    rw [hNm] at hCon
    refine g_aft0 (st1 := []) (g_V (As := [.int x4]) (rest := []) S mi_X1_addWhole qw592 hCon hK hP hD hE hS (hB1 1 _ rfl) rfl rfl rfl hl.1 (Nat.le_of_ble_eq_true rfl) rfl rfl ⟨(Nat.le_of_ble_eq_true rfl), (Nat.le_of_ble_eq_true rfl)⟩ ⟨(Nat.le_of_ble_eq_true rfl), (Nat.le_of_ble_eq_true rfl)⟩ dX11_append_48) hS rfl (fun w4 H locs hQ hP hD hS => ?_)
    have hF := Same.call hF 2 hQ.2 (Nat.le_of_ble_eq_true rfl)
    have hB1 : Blk w4 1 (cParser D α 1 pk pst pe ((S_X11_append_48 tp tl x1 x2 x3 x4).1) ((S_X11_append_48 tp tl x1 x2 x3 x4).2) dnums dbNames dpNames dfBoats dnB dnP) := hB1.splice 1 hQ.1 hQ.2 rfl (Nat.le_of_ble_eq_true rfl)
    have hB0 := hB0.other hQ.2 (Or.inl (Nat.le_of_ble_eq_true rfl))
    have hB2 := hB2.other hQ.2 (Or.inr (Nat.le_of_ble_eq_true rfl))
    have hB3 := hB3.other hQ.2 (Or.inr (Nat.le_of_ble_eq_true rfl))
    have hB4 := hB4.other hQ.2 (Or.inr (Nat.le_of_ble_eq_true rfl))
    have hH := hH.other hQ.2 (Or.inr (Nat.le_of_ble_eq_true rfl))
    have hKa := ((hQ.2).2 191 (Or.inr (Nat.le_of_ble_eq_true rfl))).trans hKa
    have hKs := hKs.other hQ.2 (Or.inr (Nat.le_of_ble_eq_true rfl))
    refine lv_aload_n S.1 S.2.1 dX11_append_51 rfl (lv_at hl 0 rfl) ?_
    refine g_get (v := .ref (α (2))) S hK hP (hB0 0 _ rfl) rfl inX11 1 (by decide) qw359 rfl dX11_append_52 ?_
    refine lv_iload S.1 S.2.1 dX11_append_55 (lv_at hl 5 rfl) ?_
    have hNm : (f_X1_addWhole 800 ((S_X11_append_48 tp tl x1 x2 x3 x4).1) ((S_X11_append_48 tp tl x1 x2 x3 x4).2) x5) = (S_X11_append_57 tp tl x1 x2 x3 x4 x5) := rfl
    have hCon := (c_X1_addWhole l D A w4 α (2) 800 ((S_X11_append_48 tp tl x1 x2 x3 x4).1) ((S_X11_append_48 tp tl x1 x2 x3 x4).2) x5 (hB1.sub 1 rfl) (Nat.le_of_ble_eq_true rfl))
    rw [hNm] at hCon
    refine g_aft0 (st1 := []) (g_V (As := [.int x5]) (rest := []) S mi_X1_addWhole qw592 hCon hK hP hD hE hS (hB1 1 _ rfl) rfl rfl rfl hl.1 (Nat.le_of_ble_eq_true rfl) rfl rfl ⟨(Nat.le_of_ble_eq_true rfl), (Nat.le_of_ble_eq_true rfl)⟩ ⟨(Nat.le_of_ble_eq_true rfl), (Nat.le_of_ble_eq_true rfl)⟩ dX11_append_57) hS rfl (fun w5 H locs hQ hP hD hS => ?_)
    have hF := Same.call hF 2 hQ.2 (Nat.le_of_ble_eq_true rfl)
    have hB1 : Blk w5 1 (cParser D α 1 pk pst pe ((S_X11_append_57 tp tl x1 x2 x3 x4 x5).1) ((S_X11_append_57 tp tl x1 x2 x3 x4 x5).2) dnums dbNames dpNames dfBoats dnB dnP) := hB1.splice 1 hQ.1 hQ.2 rfl (Nat.le_of_ble_eq_true rfl)
    have hB0 := hB0.other hQ.2 (Or.inl (Nat.le_of_ble_eq_true rfl))
    have hB2 := hB2.other hQ.2 (Or.inr (Nat.le_of_ble_eq_true rfl))
    have hB3 := hB3.other hQ.2 (Or.inr (Nat.le_of_ble_eq_true rfl))
    have hB4 := hB4.other hQ.2 (Or.inr (Nat.le_of_ble_eq_true rfl))
    have hH := hH.other hQ.2 (Or.inr (Nat.le_of_ble_eq_true rfl))
    have hKa := ((hQ.2).2 191 (Or.inr (Nat.le_of_ble_eq_true rfl))).trans hKa
    have hKs := hKs.other hQ.2 (Or.inr (Nat.le_of_ble_eq_true rfl))
    refine lv_aload_n S.1 S.2.1 dX11_append_60 rfl (lv_at hl 0 rfl) ?_
    refine g_get (v := .ref (α (2))) S hK hP (hB0 0 _ rfl) rfl inX11 1 (by decide) qw359 rfl dX11_append_61 ?_
    refine g_aftR0 (st1 := [.int ((S_X11_append_57 tp tl x1 x2 x3 x4 x5).2)]) (g_V (As := []) (rest := []) S mi_X1_length qw528 (c_X1_length l D A w5 α (2) 800 ((S_X11_append_57 tp tl x1 x2 x3 x4 x5).1) ((S_X11_append_57 tp tl x1 x2 x3 x4 x5).2) (hB1.sub 1 rfl)) hK hP hD hE hS (hB1 1 _ rfl) rfl rfl rfl hl.1 (Nat.le_of_ble_eq_true rfl) rfl rfl ⟨(Nat.le_of_ble_eq_true rfl), (Nat.le_of_ble_eq_true rfl)⟩ ⟨(Nat.le_of_ble_eq_true rfl), (Nat.le_of_ble_eq_true rfl)⟩ dX11_append_64) hS rfl (fun locs hS => ?_)
    have hf : (f_X11_append tp tl x1 x2 x3 x4 x5) = (((S_X11_append_57 tp tl x1 x2 x3 x4 x5).2), (S_X11_append_57 tp tl x1 x2 x3 x4 x5).2, (S_X11_append_57 tp tl x1 x2 x3 x4 x5).1) := if_pos c1
    exact g_iret S hr hlk hP hD hS (by rw [hf] <;> rfl) (by rw [hf]; (try dsimp only); exact ⟨⟨hB0, hB1, hB2, hH, hKa, hKs, hB3, hB4⟩, hF⟩) dX11_append_67
  · refine lv_iconst (v := (-1)) S.1 S.2.1 dX11_append_16 (by decide) ?_
    have hf : (f_X11_append tp tl x1 x2 x3 x4 x5) = ((-1), tl, tp) := if_neg c1
    exact g_iret S hr hlk hP hD hS (by rw [hf] <;> rfl) (by rw [hf]; (try dsimp only); exact ⟨⟨hB0, hB1, hB2, hH, hKa, hKs, hB3, hB4⟩, hF⟩) dX11_append_17
