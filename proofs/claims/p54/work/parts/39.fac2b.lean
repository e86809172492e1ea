noncomputable def S_X11_truncate_30 (tl : Int32) (x : Int32) : Int32 := (f_X1_cutTo tl (tl - x))
noncomputable def f_X11_truncate (tl : Int32) (x : Int32) : Int32 × Int32 := (if x < 0 then ((-1), tl) else (if x ≤ tl then ((S_X11_truncate_30 tl x), (S_X11_truncate_30 tl x)) else ((-1), tl)))
set_option maxHeartbeats 4000000 in
set_option maxRecDepth 100000 in
theorem c_X11_truncate (l : Launch) (D : va_G) (A : Nat → Prop) (w : va_W) (α : Nat → Nat) (err : Int32) (pk : Int32) (pst : Int32) (pe : Int32) (tp : Nat → Int32) (tl : Int32) (dnums : Nat → Int32) (dbNames : Nat → Int32) (dpNames : Nat → Int32) (dfBoats : Nat → Int32) (dnB : Int32) (dnP : Int32) (nums : Nat → Int32) (bNames : Nat → Int32) (pNames : Nat → Int32) (fBoats : Nat → Int32) (nB : Int32) (nP : Int32) (day : Int32) (votes : Int32) (isOpen : Int32) (baskets : Int32) (lays : Int32) (recs : Int32) (fneed : Int32) (clos : Int32) (boatO : Nat → Int32) (seaO : Nat → Int32) (faultO : Nat → Int32) (daysO : Nat → Int32) (backB : Nat → Int32) (sailB : Nat → Int32) (plc : Nat → Int32) (car : Nat → Int32) (bnd : Nat → Int32) (bsk : Nat → Int32) (dyL : Nat → Int32) (rsn : Nat → Int32) (pastF : Nat → Int32) (pastN : Int32) (logF : Nat → Int32) (logN : Int32) (blB : Nat → Int32) (blC : Nat → Int32) (hsN : Int32) (hsX : Int32) (hsF : Nat → StT) (kpF : Nat → StT) (kpZ : Nat → Int32) (tx : Nat → Int32) (txl : Int32) (x : Int32) (hV : SVW D α w err pk pst pe tp tl dnums dbNames dpNames dfBoats dnB dnP nums bNames pNames fBoats nB nP day votes isOpen baskets lays recs fneed clos boatO seaO faultO daysO backB sailB plc car bnd bsk dyL rsn pastF pastN logF logN blB blC hsN hsX hsF kpF kpZ tx txl) : Met l yX11_truncate (ws_ yX11_truncate cX11_truncate 2 (some .int)) ({ frames := 1, cells := 0, slots := 0, locals := 21 }) (gPre D A [.ref (α (0)), .int x] w) (gQ D A (some (.int (f_X11_truncate tl x).1)) (fun w1 => SVW D α w1 err pk pst pe tp ((f_X11_truncate tl x).2) dnums dbNames dpNames dfBoats dnB dnP nums bNames pNames fBoats nB nP day votes isOpen baskets lays recs fneed clos boatO seaO faultO daysO backB sailB plc car bnd bsk dyL rsn pastF pastN logF logN blB blC hsN hsX hsF kpF kpZ tx txl ∧ Same w w1 0 234)) 0 0 A := by
  refine g_met [(0, .ref (α (0))), (1, .int x)] (plainFor_of_name (by decide)) (Nat.le_of_ble_eq_true rfl) rfl (fun pg en s mi ar below me co ls S hK hP hD hE hS hr hlk hnm hl => ?_)
  obtain ⟨hB0, hB1, hB2, hH, hKa, hKs, hB3, hB4⟩ := hV
  have hF : Same w w 0 234 := Same.rf
  refine lv_iload_n S.1 S.2.1 dX11_truncate_0 rfl (lv_at hl 1 rfl) ?_
  refine lv_if_lt (tgt := 15) S.1 S.2.1 dX11_truncate_1 (by decide) (fun (c1 : x < 0) => ?_) (fun (c1 : ¬ x < 0) => ?_)
  · refine lv_iconst (v := (-1)) S.1 S.2.1 dX11_truncate_15 (by decide) ?_
    have hf : (f_X11_truncate tl x) = ((-1), tl) := if_pos c1
    exact g_iret S hr hlk hP hD hS (by rw [hf] <;> rfl) (by rw [hf]; (try dsimp only); exact ⟨⟨hB0, hB1, hB2, hH, hKa, hKs, hB3, hB4⟩, hF⟩) dX11_truncate_16
  · refine lv_iload_n S.1 S.2.1 dX11_truncate_4 rfl (lv_at hl 1 rfl) ?_
    refine lv_aload_n S.1 S.2.1 dX11_truncate_5 rfl (lv_at hl 0 rfl) ?_
    refine g_get (v := .ref (α (2))) S hK hP (hB0 0 _ rfl) rfl inX11 1 (by decide) qw359 rfl dX11_truncate_6 ?_
    refine g_aftR0 (st1 := [.int tl, .int x]) (g_V (As := []) (rest := [.int x]) S mi_X1_length qw528 (c_X1_length l D A w α (2) 800 tp tl (hB1.sub 1 rfl)) hK hP hD hE hS (hB1 1 _ rfl) rfl rfl rfl hl.1 (Nat.le_of_ble_eq_true rfl) rfl rfl ⟨(Nat.le_of_ble_eq_true rfl), (Nat.le_of_ble_eq_true rfl)⟩ ⟨(Nat.le_of_ble_eq_true rfl), (Nat.le_of_ble_eq_true rfl)⟩ dX11_truncate_9) hS rfl (fun locs hS => ?_)
    refine lv_icmp_le (tgt := 17) S.1 S.2.1 dX11_truncate_12 (by decide) (fun (c2 : x ≤ tl) => ?_) (fun (c2 : ¬ x ≤ tl) => ?_)
    · refine lv_aload_n S.1 S.2.1 dX11_truncate_17 rfl (lv_at hl 0 rfl) ?_
      refine g_get (v := .ref (α (2))) S hK hP (hB0 0 _ rfl) rfl inX11 1 (by decide) qw359 rfl dX11_truncate_18 ?_
      refine lv_aload_n S.1 S.2.1 dX11_truncate_21 rfl (lv_at hl 0 rfl) ?_
      refine g_get (v := .ref (α (2))) S hK hP (hB0 0 _ rfl) rfl inX11 1 (by decide) qw359 rfl dX11_truncate_22 ?_
      refine g_aftR0 (st1 := [.int tl, .ref (α (2))]) (g_V (As := []) (rest := [.ref (α (2))]) S mi_X1_length qw528 (c_X1_length l D A w α (2) 800 tp tl (hB1.sub 1 rfl)) hK hP hD hE hS (hB1 1 _ rfl) rfl rfl rfl hl.1 (Nat.le_of_ble_eq_true rfl) rfl rfl ⟨(Nat.le_of_ble_eq_true rfl), (Nat.le_of_ble_eq_true rfl)⟩ ⟨(Nat.le_of_ble_eq_true rfl), (Nat.le_of_ble_eq_true rfl)⟩ dX11_truncate_25) hS rfl (fun locs hS => ?_)
      refine lv_iload_n S.1 S.2.1 dX11_truncate_28 rfl (lv_at hl 1 rfl) ?_
      refine lv_isub S.1 S.2.1 dX11_truncate_29 ?_
      have hNm : (f_X1_cutTo tl (tl - x)) = (S_X11_truncate_30 tl x) := rfl
      have hCon := (c_X1_cutTo l D A w α (2) 800 tp tl (tl - x) (hB1.sub 1 rfl))
      rw [hNm] at hCon
      refine g_aft0 (st1 := []) (g_V (As := [.int (tl - x)]) (rest := []) S mi_X1_cutTo qw536 hCon hK hP hD hE hS (hB1 1 _ rfl) rfl rfl rfl hl.1 (Nat.le_of_ble_eq_true rfl) rfl rfl ⟨(Nat.le_of_ble_eq_true rfl), (Nat.le_of_ble_eq_true rfl)⟩ ⟨(Nat.le_of_ble_eq_true rfl), (Nat.le_of_ble_eq_true rfl)⟩ dX11_truncate_30) hS rfl (fun w1 H locs hQ hP hD hS => ?_)
      have hF := Same.call hF 2 hQ.2 (Nat.le_of_ble_eq_true rfl)
      have hB1 : Blk w1 1 (cParser D α 1 pk pst pe tp (S_X11_truncate_30 tl x) dnums dbNames dpNames dfBoats dnB dnP) := hB1.splice 1 hQ.1 hQ.2 rfl (Nat.le_of_ble_eq_true rfl)
      have hB0 := hB0.other hQ.2 (Or.inl (Nat.le_of_ble_eq_true rfl))
      have hB2 := hB2.other hQ.2 (Or.inr (Nat.le_of_ble_eq_true rfl))
      have hB3 := hB3.other hQ.2 (Or.inr (Nat.le_of_ble_eq_true rfl))
      have hB4 := hB4.other hQ.2 (Or.inr (Nat.le_of_ble_eq_true rfl))
      have hH := hH.other hQ.2 (Or.inr (Nat.le_of_ble_eq_true rfl))
      have hKa := ((hQ.2).2 191 (Or.inr (Nat.le_of_ble_eq_true rfl))).trans hKa
      have hKs := hKs.other hQ.2 (Or.inr (Nat.le_of_ble_eq_true rfl))
      refine lv_aload_n S.1 S.2.1 dX11_truncate_33 rfl (lv_at hl 0 rfl) ?_
      refine g_get (v := .ref (α (2))) S hK hP (hB0 0 _ rfl) rfl inX11 1 (by decide) qw359 rfl dX11_truncate_34 ?_
      refine g_aftR0 (st1 := [.int (S_X11_truncate_30 tl x)]) (g_V (As := []) (rest := []) S mi_X1_length qw528 (c_X1_length l D A w1 α (2) 800 tp (S_X11_truncate_30 tl x) (hB1.sub 1 rfl)) hK hP hD hE hS (hB1 1 _ rfl) rfl rfl rfl hl.1 (Nat.le_of_ble_eq_true rfl) rfl rfl ⟨(Nat.le_of_ble_eq_true rfl), (Nat.le_of_ble_eq_true rfl)⟩ ⟨(Nat.le_of_ble_eq_true rfl), (Nat.le_of_ble_eq_true rfl)⟩ dX11_truncate_37) hS rfl (fun locs hS => ?_)
      have hf : (f_X11_truncate tl x) = ((S_X11_truncate_30 tl x), (S_X11_truncate_30 tl x)) := (if_neg c1).trans (if_pos c2)
      exact g_iret S hr hlk hP hD hS (by rw [hf] <;> rfl) (by rw [hf]; (try dsimp only); exact ⟨⟨hB0, hB1, hB2, hH, hKa, hKs, hB3, hB4⟩, hF⟩) dX11_truncate_40
    · refine lv_iconst (v := (-1)) S.1 S.2.1 dX11_truncate_15 (by decide) ?_
      have hf : (f_X11_truncate tl x) = ((-1), tl) := (if_neg c1).trans (if_neg c2)
      exact g_iret S hr hlk hP hD hS (by rw [hf] <;> rfl) (by rw [hf]; (try dsimp only); exact ⟨⟨hB0, hB1, hB2, hH, hKa, hKs, hB3, hB4⟩, hF⟩) dX11_truncate_16
