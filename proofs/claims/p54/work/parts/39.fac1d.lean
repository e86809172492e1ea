noncomputable def f_X11_refusalToLay (nP : Int32) (isOpen : Int32) (baskets : Int32) (seaO : Nat → Int32) (plc : Nat → Int32) (car : Nat → Int32) (x : Int32) (y : Int32) (z : Int32) : Int32 := (bif (f_X11_isPerson nP x) then (bif (f_X11_isPerson nP y) then (bif (f_X11_isBasket z) then (bif (f_X2_isAtSea seaO x) then (-3) else (bif (f_X9_isHadBy plc car x y) then (bif (tb isOpen) then (if z < baskets then 0 else (-5)) else (-5)) else (-4))) else (-1)) else (-1)) else (-1))
set_option maxHeartbeats 4000000 in
set_option maxRecDepth 100000 in
theorem c_X11_refusalToLay (l : Launch) (D : va_G) (A : Nat → Prop) (w : va_W) (α : Nat → Nat) (err : Int32) (pk : Int32) (pst : Int32) (pe : Int32) (tp : Nat → Int32) (tl : Int32) (dnums : Nat → Int32) (dbNames : Nat → Int32) (dpNames : Nat → Int32) (dfBoats : Nat → Int32) (dnB : Int32) (dnP : Int32) (nums : Nat → Int32) (bNames : Nat → Int32) (pNames : Nat → Int32) (fBoats : Nat → Int32) (nB : Int32) (nP : Int32) (day : Int32) (votes : Int32) (isOpen : Int32) (baskets : Int32) (lays : Int32) (recs : Int32) (fneed : Int32) (clos : Int32) (boatO : Nat → Int32) (seaO : Nat → Int32) (faultO : Nat → Int32) (daysO : Nat → Int32) (backB : Nat → Int32) (sailB : Nat → Int32) (plc : Nat → Int32) (car : Nat → Int32) (bnd : Nat → Int32) (bsk : Nat → Int32) (dyL : Nat → Int32) (rsn : Nat → Int32) (pastF : Nat → Int32) (pastN : Int32) (logF : Nat → Int32) (logN : Int32) (blB : Nat → Int32) (blC : Nat → Int32) (hsN : Int32) (hsX : Int32) (hsF : Nat → StT) (kpF : Nat → StT) (kpZ : Nat → Int32) (tx : Nat → Int32) (txl : Int32) (x : Int32) (y : Int32) (z : Int32) (hV : SVW D α w err pk pst pe tp tl dnums dbNames dpNames dfBoats dnB dnP nums bNames pNames fBoats nB nP day votes isOpen baskets lays recs fneed clos boatO seaO faultO daysO backB sailB plc car bnd bsk dyL rsn pastF pastN logF logN blB blC hsN hsX hsF kpF kpZ tx txl) : Met l yX11_refusalToLay (ws_ yX11_refusalToLay cX11_refusalToLay 4 (some .int)) ({ frames := 3, cells := 0, slots := 0, locals := 65 }) (gPre D A [.ref (α (0)), .int x, .int y, .int z] w) (gR (some (.int (f_X11_refusalToLay nP isOpen baskets seaO plc car x y z)))) 0 0 A := by
  refine g_met [(0, .ref (α (0))), (1, .int x), (2, .int y), (3, .int z)] (plainFor_of_name (by decide)) (Nat.le_of_ble_eq_true rfl) rfl (fun pg en s mi ar below me co ls S hK hP hD hE hS hr hlk hnm hl => ?_)
  obtain ⟨hB0, hB1, hB2, hH, hKa, hKs, hB3, hB4⟩ := hV
  refine lv_aload_n S.1 S.2.1 dX11_refusalToLay_0 rfl (lv_at hl 0 rfl) ?_
  refine lv_iload_n S.1 S.2.1 dX11_refusalToLay_1 rfl (lv_at hl 1 rfl) ?_
  refine g_aftR0 (st1 := [.int (b2i (f_X11_isPerson nP x))]) (g_V (As := [.int x]) (rest := []) S mi_X11_isPerson qw467 (c_X11_isPerson l D A w α err pk pst pe tp tl dnums dbNames dpNames dfBoats dnB dnP nums bNames pNames fBoats nB nP day votes isOpen baskets lays recs fneed clos boatO seaO faultO daysO backB sailB plc car bnd bsk dyL rsn pastF pastN logF logN blB blC hsN hsX hsF kpF kpZ tx txl x ⟨hB0, hB1, hB2, hH, hKa, hKs, hB3, hB4⟩) hK hP hD hE hS (hB0 0 _ rfl) rfl rfl rfl hl.1 (Nat.le_of_ble_eq_true rfl) rfl rfl ⟨(Nat.le_of_ble_eq_true rfl), (Nat.le_of_ble_eq_true rfl)⟩ ⟨(Nat.le_of_ble_eq_true rfl), (Nat.le_of_ble_eq_true rfl)⟩ dX11_refusalToLay_2) hS rfl (fun locs hS => ?_)
  refine g_bifeq (b := (f_X11_isPerson nP x)) (tgt := 23) S dX11_refusalToLay_5 (by decide) (fun (c1 : (f_X11_isPerson nP x) = false) => ?_) (fun (c1 : (f_X11_isPerson nP x) = true) => ?_)
  · refine lv_iconst (v := (-1)) S.1 S.2.1 dX11_refusalToLay_23 (by decide) ?_
    have hf : (f_X11_refusalToLay nP isOpen baskets seaO plc car x y z) = (-1) := cd_f c1
    exact g_iretR S hr hlk hS (by rw [hf] <;> rfl) dX11_refusalToLay_24
  · refine lv_aload_n S.1 S.2.1 dX11_refusalToLay_8 rfl (lv_at hl 0 rfl) ?_
    refine lv_iload_n S.1 S.2.1 dX11_refusalToLay_9 rfl (lv_at hl 2 rfl) ?_
    refine g_aftR0 (st1 := [.int (b2i (f_X11_isPerson nP y))]) (g_V (As := [.int y]) (rest := []) S mi_X11_isPerson qw467 (c_X11_isPerson l D A w α err pk pst pe tp tl dnums dbNames dpNames dfBoats dnB dnP nums bNames pNames fBoats nB nP day votes isOpen baskets lays recs fneed clos boatO seaO faultO daysO backB sailB plc car bnd bsk dyL rsn pastF pastN logF logN blB blC hsN hsX hsF kpF kpZ tx txl y ⟨hB0, hB1, hB2, hH, hKa, hKs, hB3, hB4⟩) hK hP hD hE hS (hB0 0 _ rfl) rfl rfl rfl hl.1 (Nat.le_of_ble_eq_true rfl) rfl rfl ⟨(Nat.le_of_ble_eq_true rfl), (Nat.le_of_ble_eq_true rfl)⟩ ⟨(Nat.le_of_ble_eq_true rfl), (Nat.le_of_ble_eq_true rfl)⟩ dX11_refusalToLay_10) hS rfl (fun locs hS => ?_)
    refine g_bifeq (b := (f_X11_isPerson nP y)) (tgt := 23) S dX11_refusalToLay_13 (by decide) (fun (c2 : (f_X11_isPerson nP y) = false) => ?_) (fun (c2 : (f_X11_isPerson nP y) = true) => ?_)
    · refine lv_iconst (v := (-1)) S.1 S.2.1 dX11_refusalToLay_23 (by decide) ?_
      have hf : (f_X11_refusalToLay nP isOpen baskets seaO plc car x y z) = (-1) := (cd_t c1).trans (cd_f c2)
      exact g_iretR S hr hlk hS (by rw [hf] <;> rfl) dX11_refusalToLay_24
    · refine lv_iload_n S.1 S.2.1 dX11_refusalToLay_16 rfl (lv_at hl 3 rfl) ?_
      refine g_aftR0 (st1 := [.int (b2i (f_X11_isBasket z))]) (g_St (As := [.int z]) (rest := []) S ms_X11_isBasket qw1155 (c_X11_isBasket l D A w α z) hK hP hD hE hS rfl rfl hl.1 (Nat.le_of_ble_eq_true rfl) rfl rfl ⟨(Nat.le_of_ble_eq_true rfl), (Nat.le_of_ble_eq_true rfl)⟩ ⟨(Nat.le_of_ble_eq_true rfl), (Nat.le_of_ble_eq_true rfl)⟩ dX11_refusalToLay_17) hS rfl (fun locs hS => ?_)
      refine g_bifne (b := (f_X11_isBasket z)) (tgt := 25) S dX11_refusalToLay_20 (by decide) (fun (c3 : (f_X11_isBasket z) = true) => ?_) (fun (c3 : (f_X11_isBasket z) = false) => ?_)
      · refine lv_aload_n S.1 S.2.1 dX11_refusalToLay_25 rfl (lv_at hl 0 rfl) ?_
        refine g_get (v := .ref (α (15))) S hK hP (hB0 0 _ rfl) rfl inX11 4 (by decide) qw362 rfl dX11_refusalToLay_26 ?_
        refine g_get (v := .ref (α (16))) S hK hP (hB2 6 _ rfl) rfl inX8 0 (by decide) qw183 rfl dX11_refusalToLay_29 ?_
        refine lv_iload_n S.1 S.2.1 dX11_refusalToLay_32 rfl (lv_at hl 1 rfl) ?_
        refine g_aftR0 (st1 := [.int (b2i (f_X2_isAtSea seaO x))]) (g_V (As := [.int x]) (rest := []) S mi_X2_isAtSea qw478 (c_X2_isAtSea l D A w α (16) boatO seaO faultO daysO backB sailB x (hB2.sub 7 rfl)) hK hP hD hE hS (hB2 7 _ rfl) rfl rfl rfl hl.1 (Nat.le_of_ble_eq_true rfl) rfl rfl ⟨(Nat.le_of_ble_eq_true rfl), (Nat.le_of_ble_eq_true rfl)⟩ ⟨(Nat.le_of_ble_eq_true rfl), (Nat.le_of_ble_eq_true rfl)⟩ dX11_refusalToLay_33) hS rfl (fun locs hS => ?_)
        refine g_bifeq (b := (f_X2_isAtSea seaO x)) (tgt := 42) S dX11_refusalToLay_36 (by decide) (fun (c4 : (f_X2_isAtSea seaO x) = false) => ?_) (fun (c4 : (f_X2_isAtSea seaO x) = true) => ?_)
        · refine lv_aload_n S.1 S.2.1 dX11_refusalToLay_42 rfl (lv_at hl 0 rfl) ?_
          refine g_get (v := .ref (α (15))) S hK hP (hB0 0 _ rfl) rfl inX11 4 (by decide) qw362 rfl dX11_refusalToLay_43 ?_
          refine g_get (v := .ref (α (23))) S hK hP (hB2 6 _ rfl) rfl inX8 1 (by decide) qw187 rfl dX11_refusalToLay_46 ?_
          refine lv_iload_n S.1 S.2.1 dX11_refusalToLay_49 rfl (lv_at hl 1 rfl) ?_
          refine lv_iload_n S.1 S.2.1 dX11_refusalToLay_50 rfl (lv_at hl 2 rfl) ?_
          refine g_aftR0 (st1 := [.int (b2i (f_X9_isHadBy plc car x y))]) (g_V (As := [.int x, .int y]) (rest := []) S mi_X9_isHadBy qw1178 (c_X9_isHadBy l D A w α (23) plc car bnd bsk dyL rsn x y (hB2.sub 14 rfl)) hK hP hD hE hS (hB2 14 _ rfl) rfl rfl rfl hl.1 (Nat.le_of_ble_eq_true rfl) rfl rfl ⟨(Nat.le_of_ble_eq_true rfl), (Nat.le_of_ble_eq_true rfl)⟩ ⟨(Nat.le_of_ble_eq_true rfl), (Nat.le_of_ble_eq_true rfl)⟩ dX11_refusalToLay_51) hS rfl (fun locs hS => ?_)
          refine g_bifne (b := (f_X9_isHadBy plc car x y)) (tgt := 60) S dX11_refusalToLay_54 (by decide) (fun (c5 : (f_X9_isHadBy plc car x y) = true) => ?_) (fun (c5 : (f_X9_isHadBy plc car x y) = false) => ?_)
          · refine lv_aload_n S.1 S.2.1 dX11_refusalToLay_60 rfl (lv_at hl 0 rfl) ?_
            refine g_get (v := .ref (α (9))) S hK hP (hB0 0 _ rfl) rfl inX11 2 (by decide) qw360 rfl dX11_refusalToLay_61 ?_
            refine g_aftR0 (st1 := [.int (b2i (tb isOpen))]) (g_V (As := []) (rest := []) S mi_X10_isVoteOpen qw393 (c_X10_isVoteOpen l D A w α (9) nums bNames pNames fBoats nB nP day votes isOpen baskets lays recs fneed clos boatO seaO faultO daysO backB sailB plc car bnd bsk dyL rsn pastF pastN logF logN blB blC hB2) hK hP hD hE hS (hB2 0 _ rfl) rfl rfl rfl hl.1 (Nat.le_of_ble_eq_true rfl) rfl rfl ⟨(Nat.le_of_ble_eq_true rfl), (Nat.le_of_ble_eq_true rfl)⟩ ⟨(Nat.le_of_ble_eq_true rfl), (Nat.le_of_ble_eq_true rfl)⟩ dX11_refusalToLay_64) hS rfl (fun locs hS => ?_)
            refine g_bifeq (b := (tb isOpen)) (tgt := 81) S dX11_refusalToLay_67 (by decide) (fun (c6 : (tb isOpen) = false) => ?_) (fun (c6 : (tb isOpen) = true) => ?_)
            · refine lv_bipush (v := (-5)) S.1 S.2.1 dX11_refusalToLay_81 (by decide) ?_
              have hf : (f_X11_refusalToLay nP isOpen baskets seaO plc car x y z) = (-5) := (cd_t c1).trans ((cd_t c2).trans ((cd_t c3).trans ((cd_f c4).trans ((cd_t c5).trans (cd_f c6)))))
              exact g_iretR S hr hlk hS (by rw [hf] <;> rfl) dX11_refusalToLay_83
            · refine lv_iload_n S.1 S.2.1 dX11_refusalToLay_70 rfl (lv_at hl 3 rfl) ?_
              refine lv_aload_n S.1 S.2.1 dX11_refusalToLay_71 rfl (lv_at hl 0 rfl) ?_
              refine g_get (v := .ref (α (15))) S hK hP (hB0 0 _ rfl) rfl inX11 4 (by decide) qw362 rfl dX11_refusalToLay_72 ?_
              refine g_get (v := .int baskets) S hK hP (hB2 6 _ rfl) rfl inX8 7 (by decide) qw203 rfl dX11_refusalToLay_75 ?_
              refine lv_icmp_lt (tgt := 84) S.1 S.2.1 dX11_refusalToLay_78 (by decide) (fun (c7 : z < baskets) => ?_) (fun (c7 : ¬ z < baskets) => ?_)
              · refine lv_iconst (v := 0) S.1 S.2.1 dX11_refusalToLay_84 (by decide) ?_
                have hf : (f_X11_refusalToLay nP isOpen baskets seaO plc car x y z) = 0 := (cd_t c1).trans ((cd_t c2).trans ((cd_t c3).trans ((cd_f c4).trans ((cd_t c5).trans ((cd_t c6).trans (if_pos c7))))))
                exact g_iretR S hr hlk hS (by rw [hf] <;> rfl) dX11_refusalToLay_85
              · refine lv_bipush (v := (-5)) S.1 S.2.1 dX11_refusalToLay_81 (by decide) ?_
                have hf : (f_X11_refusalToLay nP isOpen baskets seaO plc car x y z) = (-5) := (cd_t c1).trans ((cd_t c2).trans ((cd_t c3).trans ((cd_f c4).trans ((cd_t c5).trans ((cd_t c6).trans (if_neg c7))))))
                exact g_iretR S hr hlk hS (by rw [hf] <;> rfl) dX11_refusalToLay_83
          · refine lv_bipush (v := (-4)) S.1 S.2.1 dX11_refusalToLay_57 (by decide) ?_
            have hf : (f_X11_refusalToLay nP isOpen baskets seaO plc car x y z) = (-4) := (cd_t c1).trans ((cd_t c2).trans ((cd_t c3).trans ((cd_f c4).trans (cd_f c5))))
            exact g_iretR S hr hlk hS (by rw [hf] <;> rfl) dX11_refusalToLay_59
        · refine lv_bipush (v := (-3)) S.1 S.2.1 dX11_refusalToLay_39 (by decide) ?_
          have hf : (f_X11_refusalToLay nP isOpen baskets seaO plc car x y z) = (-3) := (cd_t c1).trans ((cd_t c2).trans ((cd_t c3).trans (cd_t c4)))
          exact g_iretR S hr hlk hS (by rw [hf] <;> rfl) dX11_refusalToLay_41
      · refine lv_iconst (v := (-1)) S.1 S.2.1 dX11_refusalToLay_23 (by decide) ?_
        have hf : (f_X11_refusalToLay nP isOpen baskets seaO plc car x y z) = (-1) := (cd_t c1).trans ((cd_t c2).trans (cd_f c3))
        exact g_iretR S hr hlk hS (by rw [hf] <;> rfl) dX11_refusalToLay_24
