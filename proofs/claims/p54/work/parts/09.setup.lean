def f_X7_clear  : Int32 × Int32 := (0, 0)
set_option maxHeartbeats 4000000 in
set_option maxRecDepth 100000 in
theorem c_X7_clear (l : Launch) (D : va_G) (A : Nat → Prop) (w : va_W) (α : Nat → Nat) (k : Nat) (nums : Nat → Int32) (bNames : Nat → Int32) (pNames : Nat → Int32) (fBoats : Nat → Int32) (nB : Int32) (nP : Int32) (hB0 : Blk w k (cSetup D α k nums bNames pNames fBoats nB nP)) : Met l yX7_clear (ws_ yX7_clear cX7_clear 1 none) ({ frames := 0, cells := 0, slots := 0, locals := 0 }) (gPre D A [.ref (α (k))] w) (gQ D A none (fun w1 => Blk w1 k (cSetup D α k nums bNames pNames fBoats f_X7_clear.1 f_X7_clear.2) ∧ Same w w1 k 5)) 0 0 A := by
  refine g_met [(0, .ref (α (k)))] (plainFor_of_name (by decide)) (Nat.le_of_ble_eq_true rfl) rfl (fun pg en s mi ar below me co ls S hK hP hD hE hS hr hlk hnm hl => ?_)
  have hF : Same w w k 5 := Same.rf
  refine lv_aload_n S.1 S.2.1 dX7_clear_0 rfl (lv_at hl 0 rfl) ?_
  refine lv_iconst (v := 0) S.1 S.2.1 dX7_clear_1 (by decide) ?_
  refine g_put S hK hP hD hS (hB0 0 _ rfl) rfl inX7 tyX7_ok nmX7 4 (by decide) qw65 rfl rfl rfl (Nat.le_of_ble_eq_true rfl) dX7_clear_2 (fun w1 H locs hw hP hD hS => ?_)
  have hF := Same.set hF 0 hw (by decide)
  have hB0 : Blk w1 k (cSetup D α k nums bNames pNames fBoats 0 nP) := hB0.set 0 hw (Nat.le_of_ble_eq_true rfl) rfl
  refine lv_aload_n S.1 S.2.1 dX7_clear_5 rfl (lv_at hl 0 rfl) ?_
  refine lv_iconst (v := 0) S.1 S.2.1 dX7_clear_6 (by decide) ?_
  refine g_put S hK hP hD hS (hB0 0 _ rfl) rfl inX7 tyX7_ok nmX7 5 (by decide) qw66 rfl rfl rfl (Nat.le_of_ble_eq_true rfl) dX7_clear_7 (fun w2 H locs hw hP hD hS => ?_)
  have hF := Same.set hF 0 hw (by decide)
  have hB0 : Blk w2 k (cSetup D α k nums bNames pNames fBoats 0 0) := hB0.set 0 hw (Nat.le_of_ble_eq_true rfl) rfl
  have hf : f_X7_clear = (0, 0) := rfl
  exact g_vret S hr hlk hP hD hS (rfl) (⟨by rw [hf]; exact hB0, hF⟩) dX7_clear_10
def f_X7_copyFrom (nums : Nat → Int32) (bNames : Nat → Int32) (pNames : Nat → Int32) (fBoats : Nat → Int32) (nums2 : Nat → Int32) (bNames2 : Nat → Int32) (pNames2 : Nat → Int32) (fBoats2 : Nat → Int32) (nB2 : Int32) (nP2 : Int32) : (Nat → Int32) × (Nat → Int32) × Int32 × Int32 × (Nat → Int32) × (Nat → Int32) := ((f_X11_copyRow 6 bNames2 6 bNames), (f_X11_copyRow 20 fBoats2 20 fBoats), nB2, nP2, (f_X11_copyRow 10 nums2 10 nums), (f_X11_copyRow 20 pNames2 20 pNames))
set_option maxHeartbeats 4000000 in
set_option maxRecDepth 100000 in
theorem c_X7_copyFrom (l : Launch) (D : va_G) (A : Nat → Prop) (w : va_W) (α : Nat → Nat) (k : Nat) (nums : Nat → Int32) (bNames : Nat → Int32) (pNames : Nat → Int32) (fBoats : Nat → Int32) (nB : Int32) (nP : Int32) (k2 : Nat) (nums2 : Nat → Int32) (bNames2 : Nat → Int32) (pNames2 : Nat → Int32) (fBoats2 : Nat → Int32) (nB2 : Int32) (nP2 : Int32) (hB0 : Blk w k (cSetup D α k nums bNames pNames fBoats nB nP)) (hB1 : Blk w k2 (cSetup D α k2 nums2 bNames2 pNames2 fBoats2 nB2 nP2)) (hd1 : k2 + 5 ≤ k ∨ k + 5 ≤ k2) : Met l yX7_copyFrom (ws_ yX7_copyFrom cX7_copyFrom 2 none) ({ frames := 2, cells := 0, slots := 0, locals := 61 }) (gPre D A [.ref (α (k)), .ref (α (k2))] w) (gQ D A none (fun w1 => Blk w1 k (cSetup D α k ((f_X7_copyFrom nums bNames pNames fBoats nums2 bNames2 pNames2 fBoats2 nB2 nP2).2.2.2.2.1) ((f_X7_copyFrom nums bNames pNames fBoats nums2 bNames2 pNames2 fBoats2 nB2 nP2).1) ((f_X7_copyFrom nums bNames pNames fBoats nums2 bNames2 pNames2 fBoats2 nB2 nP2).2.2.2.2.2) ((f_X7_copyFrom nums bNames pNames fBoats nums2 bNames2 pNames2 fBoats2 nB2 nP2).2.1) ((f_X7_copyFrom nums bNames pNames fBoats nums2 bNames2 pNames2 fBoats2 nB2 nP2).2.2.1) ((f_X7_copyFrom nums bNames pNames fBoats nums2 bNames2 pNames2 fBoats2 nB2 nP2).2.2.2.1)) ∧ Same w w1 k 5)) 0 0 A := by
  refine g_met [(0, .ref (α (k))), (1, .ref (α (k2)))] (plainFor_of_name (by decide)) (Nat.le_of_ble_eq_true rfl) rfl (fun pg en s mi ar below me co ls S hK hP hD hE hS hr hlk hnm hl => ?_)
  have hF : Same w w k 5 := Same.rf
  refine lv_aload_n S.1 S.2.1 dX7_copyFrom_0 rfl (lv_at hl 1 rfl) ?_
  refine g_get (v := .ref (α (k2 + 1))) S hK hP (hB1 0 _ rfl) rfl inX7 0 (by decide) qw61 rfl dX7_copyFrom_1 ?_
  refine lv_aload_n S.1 S.2.1 dX7_copyFrom_4 rfl (lv_at hl 0 rfl) ?_
  refine g_get (v := .ref (α (k + 1))) S hK hP (hB0 0 _ rfl) rfl inX7 0 (by decide) qw61 rfl dX7_copyFrom_5 ?_
  refine g_aft0 (st1 := []) (g_SN (As := [.ref (α (k2 + 1)), .ref (α (k + 1))]) (rest := []) S ms_X11_copyRow qn_RX7_43 (c_X11_copyRow l D A w α (k2 + 1) 10 nums2 (k + 1) 10 nums (hB1 1 _ rfl) (hB0 1 _ rfl) (by first | assumption | exact vin_d (by decide) | exact vp_in_nI (by omega) (by decide) | decide | omega) (by first | assumption | exact vin_d (by decide) | exact vp_in_nI (by omega) (by decide) | decide | omega)) hK hP hD hE hS rfl rfl hl.1 (Nat.le_of_ble_eq_true rfl) rfl rfl ⟨(Nat.le_of_ble_eq_true rfl), (Nat.le_of_ble_eq_true rfl)⟩ ⟨(Nat.le_of_ble_eq_true rfl), (Nat.le_of_ble_eq_true rfl)⟩ dX7_copyFrom_8) hS rfl (fun w1 H locs hQ hP hD hS => ?_)
  have hw := hQ
  have hF := Same.set hF 1 hw (by decide)
  have hB0 : Blk w1 k (cSetup D α k (f_X11_copyRow 10 nums2 10 nums) bNames pNames fBoats nB nP) := hB0.set 1 hw (Nat.le_of_ble_eq_true rfl) rfl
  refine lv_aload_n S.1 S.2.1 dX7_copyFrom_11 rfl (lv_at hl 1 rfl) ?_
  refine g_get (v := .ref (α (k2 + 2))) S hK hP ((hB1.other hF hd1) 0 _ rfl) rfl inX7 1 (by decide) qw62 rfl dX7_copyFrom_12 ?_
  refine lv_aload_n S.1 S.2.1 dX7_copyFrom_15 rfl (lv_at hl 0 rfl) ?_
  refine g_get (v := .ref (α (k + 2))) S hK hP (hB0 0 _ rfl) rfl inX7 1 (by decide) qw62 rfl dX7_copyFrom_16 ?_
  refine g_aft0 (st1 := []) (g_SN (As := [.ref (α (k2 + 2)), .ref (α (k + 2))]) (rest := []) S ms_X11_copyRow qn_RX7_43 (c_X11_copyRow l D A w1 α (k2 + 2) 6 bNames2 (k + 2) 6 bNames ((hB1.other hF hd1) 2 _ rfl) (hB0 2 _ rfl) (by first | assumption | exact vin_d (by decide) | exact vp_in_nI (by omega) (by decide) | decide | omega) (by first | assumption | exact vin_d (by decide) | exact vp_in_nI (by omega) (by decide) | decide | omega)) hK hP hD hE hS rfl rfl hl.1 (Nat.le_of_ble_eq_true rfl) rfl rfl ⟨(Nat.le_of_ble_eq_true rfl), (Nat.le_of_ble_eq_true rfl)⟩ ⟨(Nat.le_of_ble_eq_true rfl), (Nat.le_of_ble_eq_true rfl)⟩ dX7_copyFrom_19) hS rfl (fun w2 H locs hQ hP hD hS => ?_)
  have hw := hQ
  have hF := Same.set hF 2 hw (by decide)
  have hB0 : Blk w2 k (cSetup D α k (f_X11_copyRow 10 nums2 10 nums) (f_X11_copyRow 6 bNames2 6 bNames) pNames fBoats nB nP) := hB0.set 2 hw (Nat.le_of_ble_eq_true rfl) rfl
  refine lv_aload_n S.1 S.2.1 dX7_copyFrom_22 rfl (lv_at hl 1 rfl) ?_
  refine g_get (v := .ref (α (k2 + 3))) S hK hP ((hB1.other hF hd1) 0 _ rfl) rfl inX7 2 (by decide) qw63 rfl dX7_copyFrom_23 ?_
  refine lv_aload_n S.1 S.2.1 dX7_copyFrom_26 rfl (lv_at hl 0 rfl) ?_
  refine g_get (v := .ref (α (k + 3))) S hK hP (hB0 0 _ rfl) rfl inX7 2 (by decide) qw63 rfl dX7_copyFrom_27 ?_
  refine g_aft0 (st1 := []) (g_SN (As := [.ref (α (k2 + 3)), .ref (α (k + 3))]) (rest := []) S ms_X11_copyRow qn_RX7_43 (c_X11_copyRow l D A w2 α (k2 + 3) 20 pNames2 (k + 3) 20 pNames ((hB1.other hF hd1) 3 _ rfl) (hB0 3 _ rfl) (by first | assumption | exact vin_d (by decide) | exact vp_in_nI (by omega) (by decide) | decide | omega) (by first | assumption | exact vin_d (by decide) | exact vp_in_nI (by omega) (by decide) | decide | omega)) hK hP hD hE hS rfl rfl hl.1 (Nat.le_of_ble_eq_true rfl) rfl rfl ⟨(Nat.le_of_ble_eq_true rfl), (Nat.le_of_ble_eq_true rfl)⟩ ⟨(Nat.le_of_ble_eq_true rfl), (Nat.le_of_ble_eq_true rfl)⟩ dX7_copyFrom_30) hS rfl (fun w3 H locs hQ hP hD hS => ?_)
  have hw := hQ
  have hF := Same.set hF 3 hw (by decide)
  have hB0 : Blk w3 k (cSetup D α k (f_X11_copyRow 10 nums2 10 nums) (f_X11_copyRow 6 bNames2 6 bNames) (f_X11_copyRow 20 pNames2 20 pNames) fBoats nB nP) := hB0.set 3 hw (Nat.le_of_ble_eq_true rfl) rfl
  refine lv_aload_n S.1 S.2.1 dX7_copyFrom_33 rfl (lv_at hl 1 rfl) ?_
  refine g_get (v := .ref (α (k2 + 4))) S hK hP ((hB1.other hF hd1) 0 _ rfl) rfl inX7 3 (by decide) qw64 rfl dX7_copyFrom_34 ?_
  refine lv_aload_n S.1 S.2.1 dX7_copyFrom_37 rfl (lv_at hl 0 rfl) ?_
  refine g_get (v := .ref (α (k + 4))) S hK hP (hB0 0 _ rfl) rfl inX7 3 (by decide) qw64 rfl dX7_copyFrom_38 ?_
  refine g_aft0 (st1 := []) (g_SN (As := [.ref (α (k2 + 4)), .ref (α (k + 4))]) (rest := []) S ms_X11_copyRow qn_RX7_43 (c_X11_copyRow l D A w3 α (k2 + 4) 20 fBoats2 (k + 4) 20 fBoats ((hB1.other hF hd1) 4 _ rfl) (hB0 4 _ rfl) (by first | assumption | exact vin_d (by decide) | exact vp_in_nI (by omega) (by decide) | decide | omega) (by first | assumption | exact vin_d (by decide) | exact vp_in_nI (by omega) (by decide) | decide | omega)) hK hP hD hE hS rfl rfl hl.1 (Nat.le_of_ble_eq_true rfl) rfl rfl ⟨(Nat.le_of_ble_eq_true rfl), (Nat.le_of_ble_eq_true rfl)⟩ ⟨(Nat.le_of_ble_eq_true rfl), (Nat.le_of_ble_eq_true rfl)⟩ dX7_copyFrom_41) hS rfl (fun w4 H locs hQ hP hD hS => ?_)
  have hw := hQ
  have hF := Same.set hF 4 hw (by decide)
  have hB0 : Blk w4 k (cSetup D α k (f_X11_copyRow 10 nums2 10 nums) (f_X11_copyRow 6 bNames2 6 bNames) (f_X11_copyRow 20 pNames2 20 pNames) (f_X11_copyRow 20 fBoats2 20 fBoats) nB nP) := hB0.set 4 hw (Nat.le_of_ble_eq_true rfl) rfl
  refine lv_aload_n S.1 S.2.1 dX7_copyFrom_44 rfl (lv_at hl 0 rfl) ?_
  refine lv_aload_n S.1 S.2.1 dX7_copyFrom_45 rfl (lv_at hl 1 rfl) ?_
  refine g_get (v := .int nB2) S hK hP ((hB1.other hF hd1) 0 _ rfl) rfl inX7 4 (by decide) qw65 rfl dX7_copyFrom_46 ?_
  refine g_put S hK hP hD hS (hB0 0 _ rfl) rfl inX7 tyX7_ok nmX7 4 (by decide) qw65 rfl rfl rfl (Nat.le_of_ble_eq_true rfl) dX7_copyFrom_49 (fun w5 H locs hw hP hD hS => ?_)
  have hF := Same.set hF 0 hw (by decide)
  have hB0 : Blk w5 k (cSetup D α k (f_X11_copyRow 10 nums2 10 nums) (f_X11_copyRow 6 bNames2 6 bNames) (f_X11_copyRow 20 pNames2 20 pNames) (f_X11_copyRow 20 fBoats2 20 fBoats) nB2 nP) := hB0.set 0 hw (Nat.le_of_ble_eq_true rfl) rfl
  refine lv_aload_n S.1 S.2.1 dX7_copyFrom_52 rfl (lv_at hl 0 rfl) ?_
  refine lv_aload_n S.1 S.2.1 dX7_copyFrom_53 rfl (lv_at hl 1 rfl) ?_
  refine g_get (v := .int nP2) S hK hP ((hB1.other hF hd1) 0 _ rfl) rfl inX7 5 (by decide) qw66 rfl dX7_copyFrom_54 ?_
  refine g_put S hK hP hD hS (hB0 0 _ rfl) rfl inX7 tyX7_ok nmX7 5 (by decide) qw66 rfl rfl rfl (Nat.le_of_ble_eq_true rfl) dX7_copyFrom_57 (fun w6 H locs hw hP hD hS => ?_)
  have hF := Same.set hF 0 hw (by decide)
  have hB0 : Blk w6 k (cSetup D α k (f_X11_copyRow 10 nums2 10 nums) (f_X11_copyRow 6 bNames2 6 bNames) (f_X11_copyRow 20 pNames2 20 pNames) (f_X11_copyRow 20 fBoats2 20 fBoats) nB2 nP2) := hB0.set 0 hw (Nat.le_of_ble_eq_true rfl) rfl
  have hf : (f_X7_copyFrom nums bNames pNames fBoats nums2 bNames2 pNames2 fBoats2 nB2 nP2) = ((f_X11_copyRow 6 bNames2 6 bNames), (f_X11_copyRow 20 fBoats2 20 fBoats), nB2, nP2, (f_X11_copyRow 10 nums2 10 nums), (f_X11_copyRow 20 pNames2 20 pNames)) := rfl
  exact g_vret S hr hlk hP hD hS (rfl) (⟨by rw [hf]; exact hB0, hF⟩) dX7_copyFrom_60
def f_X7_boats (nB : Int32) : Int32 := nB
set_option maxHeartbeats 4000000 in
set_option maxRecDepth 100000 in
theorem c_X7_boats (l : Launch) (D : va_G) (A : Nat → Prop) (w : va_W) (α : Nat → Nat) (k : Nat) (nums : Nat → Int32) (bNames : Nat → Int32) (pNames : Nat → Int32) (fBoats : Nat → Int32) (nB : Int32) (nP : Int32) (hB0 : Blk w k (cSetup D α k nums bNames pNames fBoats nB nP)) : Met l yX7_boats (ws_ yX7_boats cX7_boats 1 (some .int)) ({ frames := 0, cells := 0, slots := 0, locals := 0 }) (gPre D A [.ref (α (k))] w) (gR (some (.int (f_X7_boats nB)))) 0 0 A := by
  refine g_met [(0, .ref (α (k)))] (plainFor_of_name (by decide)) (Nat.le_of_ble_eq_true rfl) rfl (fun pg en s mi ar below me co ls S hK hP hD hE hS hr hlk hnm hl => ?_)
  refine lv_aload_n S.1 S.2.1 dX7_boats_0 rfl (lv_at hl 0 rfl) ?_
  refine g_get (v := .int nB) S hK hP (hB0 0 _ rfl) rfl inX7 4 (by decide) qw65 rfl dX7_boats_1 ?_
  have hf : (f_X7_boats nB) = nB := rfl
  exact g_iretR S hr hlk hS (by rw [hf] <;> rfl) dX7_boats_4
def f_X7_people (nP : Int32) : Int32 := nP
set_option maxHeartbeats 4000000 in
set_option maxRecDepth 100000 in
theorem c_X7_people (l : Launch) (D : va_G) (A : Nat → Prop) (w : va_W) (α : Nat → Nat) (k : Nat) (nums : Nat → Int32) (bNames : Nat → Int32) (pNames : Nat → Int32) (fBoats : Nat → Int32) (nB : Int32) (nP : Int32) (hB0 : Blk w k (cSetup D α k nums bNames pNames fBoats nB nP)) : Met l yX7_people (ws_ yX7_people cX7_people 1 (some .int)) ({ frames := 0, cells := 0, slots := 0, locals := 0 }) (gPre D A [.ref (α (k))] w) (gR (some (.int (f_X7_people nP)))) 0 0 A := by
  refine g_met [(0, .ref (α (k)))] (plainFor_of_name (by decide)) (Nat.le_of_ble_eq_true rfl) rfl (fun pg en s mi ar below me co ls S hK hP hD hE hS hr hlk hnm hl => ?_)
  refine lv_aload_n S.1 S.2.1 dX7_people_0 rfl (lv_at hl 0 rfl) ?_
  refine g_get (v := .int nP) S hK hP (hB0 0 _ rfl) rfl inX7 5 (by decide) qw66 rfl dX7_people_1 ?_
  have hf : (f_X7_people nP) = nP := rfl
  exact g_iretR S hr hlk hS (by rw [hf] <;> rfl) dX7_people_4
def f_X7_numberOf (nums : Nat → Int32) (x : Int32) : Int32 := (f_X11_cell 10 nums x 0)
set_option maxHeartbeats 4000000 in
set_option maxRecDepth 100000 in
theorem c_X7_numberOf (l : Launch) (D : va_G) (A : Nat → Prop) (w : va_W) (α : Nat → Nat) (k : Nat) (nums : Nat → Int32) (bNames : Nat → Int32) (pNames : Nat → Int32) (fBoats : Nat → Int32) (nB : Int32) (nP : Int32) (x : Int32) (hB0 : Blk w k (cSetup D α k nums bNames pNames fBoats nB nP)) : Met l yX7_numberOf (ws_ yX7_numberOf cX7_numberOf 2 (some .int)) ({ frames := 1, cells := 0, slots := 0, locals := 22 }) (gPre D A [.ref (α (k)), .int x] w) (gR (some (.int (f_X7_numberOf nums x)))) 0 0 A := by
  refine g_met [(0, .ref (α (k))), (1, .int x)] (plainFor_of_name (by decide)) (Nat.le_of_ble_eq_true rfl) rfl (fun pg en s mi ar below me co ls S hK hP hD hE hS hr hlk hnm hl => ?_)
  refine lv_aload_n S.1 S.2.1 dX7_numberOf_0 rfl (lv_at hl 0 rfl) ?_
  refine g_get (v := .ref (α (k + 1))) S hK hP (hB0 0 _ rfl) rfl inX7 0 (by decide) qw61 rfl dX7_numberOf_1 ?_
  refine lv_iload_n S.1 S.2.1 dX7_numberOf_4 rfl (lv_at hl 1 rfl) ?_
  refine lv_iconst (v := 0) S.1 S.2.1 dX7_numberOf_5 (by decide) ?_
  refine g_aftR0 (st1 := [.int (f_X11_cell 10 nums x 0)]) (g_SN (As := [.ref (α (k + 1)), .int x, .int 0]) (rest := []) S ms_X11_cell qn_RX7_47 (c_X11_cell l D A w α (k + 1) 10 nums x 0 (hB0 1 _ rfl) (by first | assumption | exact vin_d (by decide) | exact vp_in_nI (by omega) (by decide) | decide | omega)) hK hP hD hE hS rfl rfl hl.1 (Nat.le_of_ble_eq_true rfl) rfl rfl ⟨(Nat.le_of_ble_eq_true rfl), (Nat.le_of_ble_eq_true rfl)⟩ ⟨(Nat.le_of_ble_eq_true rfl), (Nat.le_of_ble_eq_true rfl)⟩ dX7_numberOf_6) hS rfl (fun locs hS => ?_)
  have hf : (f_X7_numberOf nums x) = (f_X11_cell 10 nums x 0) := rfl
  exact g_iretR S hr hlk hS (by rw [hf] <;> rfl) dX7_numberOf_9
def f_X7_setNumber (nums : Nat → Int32) (x : Int32) (v : Int32) : (Nat → Int32) := (f_X11_setCell 10 nums x v)
set_option maxHeartbeats 4000000 in
set_option maxRecDepth 100000 in
theorem c_X7_setNumber (l : Launch) (D : va_G) (A : Nat → Prop) (w : va_W) (α : Nat → Nat) (k : Nat) (nums : Nat → Int32) (bNames : Nat → Int32) (pNames : Nat → Int32) (fBoats : Nat → Int32) (nB : Int32) (nP : Int32) (x : Int32) (v : Int32) (hB0 : Blk w k (cSetup D α k nums bNames pNames fBoats nB nP)) : Met l yX7_setNumber (ws_ yX7_setNumber cX7_setNumber 3 none) ({ frames := 1, cells := 0, slots := 0, locals := 22 }) (gPre D A [.ref (α (k)), .int x, .int v] w) (gQ D A none (fun w1 => Blk w1 k (cSetup D α k (f_X7_setNumber nums x v) bNames pNames fBoats nB nP) ∧ Same w w1 k 5)) 0 0 A := by
  refine g_met [(0, .ref (α (k))), (1, .int x), (2, .int v)] (plainFor_of_name (by decide)) (Nat.le_of_ble_eq_true rfl) rfl (fun pg en s mi ar below me co ls S hK hP hD hE hS hr hlk hnm hl => ?_)
  have hF : Same w w k 5 := Same.rf
  refine lv_aload_n S.1 S.2.1 dX7_setNumber_0 rfl (lv_at hl 0 rfl) ?_
  refine g_get (v := .ref (α (k + 1))) S hK hP (hB0 0 _ rfl) rfl inX7 0 (by decide) qw61 rfl dX7_setNumber_1 ?_
  refine lv_iload_n S.1 S.2.1 dX7_setNumber_4 rfl (lv_at hl 1 rfl) ?_
  refine lv_iload_n S.1 S.2.1 dX7_setNumber_5 rfl (lv_at hl 2 rfl) ?_
  refine g_aft0 (st1 := []) (g_SN (As := [.ref (α (k + 1)), .int x, .int v]) (rest := []) S ms_X11_setCell qn_RX7_51 (c_X11_setCell l D A w α (k + 1) 10 nums x v (hB0 1 _ rfl) (by first | assumption | exact vin_d (by decide) | exact vp_in_nI (by omega) (by decide) | decide | omega)) hK hP hD hE hS rfl rfl hl.1 (Nat.le_of_ble_eq_true rfl) rfl rfl ⟨(Nat.le_of_ble_eq_true rfl), (Nat.le_of_ble_eq_true rfl)⟩ ⟨(Nat.le_of_ble_eq_true rfl), (Nat.le_of_ble_eq_true rfl)⟩ dX7_setNumber_6) hS rfl (fun w1 H locs hQ hP hD hS => ?_)
  have hw := hQ
  have hF := Same.set hF 1 hw (by decide)
  have hB0 : Blk w1 k (cSetup D α k (f_X11_setCell 10 nums x v) bNames pNames fBoats nB nP) := hB0.set 1 hw (Nat.le_of_ble_eq_true rfl) rfl
  have hf : (f_X7_setNumber nums x v) = (f_X11_setCell 10 nums x v) := rfl
  exact g_vret S hr hlk hP hD hS (rfl) (⟨by rw [hf]; exact hB0, hF⟩) dX7_setNumber_9
def f_X7_addBoat (bNames : Nat → Int32) (nB : Int32) (nm : Int32) : (Nat → Int32) × Int32 := (if nB < 6 then ((f_X11_setCell 6 bNames nB nm), (nB + 1)) else (bNames, nB))
set_option maxHeartbeats 4000000 in
set_option maxRecDepth 100000 in
theorem c_X7_addBoat (l : Launch) (D : va_G) (A : Nat → Prop) (w : va_W) (α : Nat → Nat) (k : Nat) (nums : Nat → Int32) (bNames : Nat → Int32) (pNames : Nat → Int32) (fBoats : Nat → Int32) (nB : Int32) (nP : Int32) (nm : Int32) (hB0 : Blk w k (cSetup D α k nums bNames pNames fBoats nB nP)) : Met l yX7_addBoat (ws_ yX7_addBoat cX7_addBoat 2 none) ({ frames := 1, cells := 0, slots := 0, locals := 22 }) (gPre D A [.ref (α (k)), .int nm] w) (gQ D A none (fun w1 => Blk w1 k (cSetup D α k nums ((f_X7_addBoat bNames nB nm).1) pNames fBoats ((f_X7_addBoat bNames nB nm).2) nP) ∧ Same w w1 k 5)) 0 0 A := by
  refine g_met [(0, .ref (α (k))), (1, .int nm)] (plainFor_of_name (by decide)) (Nat.le_of_ble_eq_true rfl) rfl (fun pg en s mi ar below me co ls S hK hP hD hE hS hr hlk hnm hl => ?_)
  have hF : Same w w k 5 := Same.rf
  refine lv_aload_n S.1 S.2.1 dX7_addBoat_0 rfl (lv_at hl 0 rfl) ?_
  refine g_get (v := .int nB) S hK hP (hB0 0 _ rfl) rfl inX7 4 (by decide) qw65 rfl dX7_addBoat_1 ?_
  refine lv_bipush (v := 6) S.1 S.2.1 dX7_addBoat_4 (by decide) ?_
  refine lv_icmp_lt (tgt := 10) S.1 S.2.1 dX7_addBoat_6 (by decide) (fun (c1 : nB < 6) => ?_) (fun (c1 : ¬ nB < 6) => ?_)
  · refine lv_aload_n S.1 S.2.1 dX7_addBoat_10 rfl (lv_at hl 0 rfl) ?_
    refine g_get (v := .ref (α (k + 2))) S hK hP (hB0 0 _ rfl) rfl inX7 1 (by decide) qw62 rfl dX7_addBoat_11 ?_
    refine lv_aload_n S.1 S.2.1 dX7_addBoat_14 rfl (lv_at hl 0 rfl) ?_
    refine g_get (v := .int nB) S hK hP (hB0 0 _ rfl) rfl inX7 4 (by decide) qw65 rfl dX7_addBoat_15 ?_
    refine lv_iload_n S.1 S.2.1 dX7_addBoat_18 rfl (lv_at hl 1 rfl) ?_
    refine g_aft0 (st1 := []) (g_SN (As := [.ref (α (k + 2)), .int nB, .int nm]) (rest := []) S ms_X11_setCell qn_RX7_51 (c_X11_setCell l D A w α (k + 2) 6 bNames nB nm (hB0 2 _ rfl) (by first | assumption | exact vin_d (by decide) | exact vp_in_nI (by omega) (by decide) | decide | omega)) hK hP hD hE hS rfl rfl hl.1 (Nat.le_of_ble_eq_true rfl) rfl rfl ⟨(Nat.le_of_ble_eq_true rfl), (Nat.le_of_ble_eq_true rfl)⟩ ⟨(Nat.le_of_ble_eq_true rfl), (Nat.le_of_ble_eq_true rfl)⟩ dX7_addBoat_19) hS rfl (fun w1 H locs hQ hP hD hS => ?_)
    have hw := hQ
    have hF := Same.set hF 2 hw (by decide)
    have hB0 : Blk w1 k (cSetup D α k nums (f_X11_setCell 6 bNames nB nm) pNames fBoats nB nP) := hB0.set 2 hw (Nat.le_of_ble_eq_true rfl) rfl
    refine lv_aload_n S.1 S.2.1 dX7_addBoat_22 rfl (lv_at hl 0 rfl) ?_
    refine lv_dup S.1 S.2.1 dX7_addBoat_23 rfl ?_
    refine g_get (v := .int nB) S hK hP (hB0 0 _ rfl) rfl inX7 4 (by decide) qw65 rfl dX7_addBoat_24 ?_
    refine lv_iconst (v := 1) S.1 S.2.1 dX7_addBoat_27 (by decide) ?_
    refine lv_iadd S.1 S.2.1 dX7_addBoat_28 ?_
    refine g_put S hK hP hD hS (hB0 0 _ rfl) rfl inX7 tyX7_ok nmX7 4 (by decide) qw65 rfl rfl rfl (Nat.le_of_ble_eq_true rfl) dX7_addBoat_29 (fun w2 H locs hw hP hD hS => ?_)
    have hF := Same.set hF 0 hw (by decide)
    have hB0 : Blk w2 k (cSetup D α k nums (f_X11_setCell 6 bNames nB nm) pNames fBoats (nB + 1) nP) := hB0.set 0 hw (Nat.le_of_ble_eq_true rfl) rfl
    have hf : (f_X7_addBoat bNames nB nm) = ((f_X11_setCell 6 bNames nB nm), (nB + 1)) := if_pos c1
    exact g_vret S hr hlk hP hD hS (rfl) (⟨by rw [hf]; exact hB0, hF⟩) dX7_addBoat_32
  · have hf : (f_X7_addBoat bNames nB nm) = (bNames, nB) := if_neg c1
    exact g_vret S hr hlk hP hD hS (rfl) (⟨by rw [hf]; exact hB0, hF⟩) dX7_addBoat_9
def f_X7_addPerson (pNames : Nat → Int32) (fBoats : Nat → Int32) (nP : Int32) (nm : Int32) (b : Int32) : (Nat → Int32) × Int32 × (Nat → Int32) := (if nP < 20 then ((f_X11_setCell 20 fBoats nP b), (nP + 1), (f_X11_setCell 20 pNames nP nm)) else (fBoats, nP, pNames))
set_option maxHeartbeats 4000000 in
set_option maxRecDepth 100000 in
theorem c_X7_addPerson (l : Launch) (D : va_G) (A : Nat → Prop) (w : va_W) (α : Nat → Nat) (k : Nat) (nums : Nat → Int32) (bNames : Nat → Int32) (pNames : Nat → Int32) (fBoats : Nat → Int32) (nB : Int32) (nP : Int32) (nm : Int32) (b : Int32) (hB0 : Blk w k (cSetup D α k nums bNames pNames fBoats nB nP)) : Met l yX7_addPerson (ws_ yX7_addPerson cX7_addPerson 3 none) ({ frames := 1, cells := 0, slots := 0, locals := 22 }) (gPre D A [.ref (α (k)), .int nm, .int b] w) (gQ D A none (fun w1 => Blk w1 k (cSetup D α k nums bNames ((f_X7_addPerson pNames fBoats nP nm b).2.2) ((f_X7_addPerson pNames fBoats nP nm b).1) nB ((f_X7_addPerson pNames fBoats nP nm b).2.1)) ∧ Same w w1 k 5)) 0 0 A := by
  refine g_met [(0, .ref (α (k))), (1, .int nm), (2, .int b)] (plainFor_of_name (by decide)) (Nat.le_of_ble_eq_true rfl) rfl (fun pg en s mi ar below me co ls S hK hP hD hE hS hr hlk hnm hl => ?_)
  have hF : Same w w k 5 := Same.rf
  refine lv_aload_n S.1 S.2.1 dX7_addPerson_0 rfl (lv_at hl 0 rfl) ?_
  refine g_get (v := .int nP) S hK hP (hB0 0 _ rfl) rfl inX7 5 (by decide) qw66 rfl dX7_addPerson_1 ?_
  refine lv_bipush (v := 20) S.1 S.2.1 dX7_addPerson_4 (by decide) ?_
  refine lv_icmp_lt (tgt := 10) S.1 S.2.1 dX7_addPerson_6 (by decide) (fun (c1 : nP < 20) => ?_) (fun (c1 : ¬ nP < 20) => ?_)
  · refine lv_aload_n S.1 S.2.1 dX7_addPerson_10 rfl (lv_at hl 0 rfl) ?_
    refine g_get (v := .ref (α (k + 3))) S hK hP (hB0 0 _ rfl) rfl inX7 2 (by decide) qw63 rfl dX7_addPerson_11 ?_
    refine lv_aload_n S.1 S.2.1 dX7_addPerson_14 rfl (lv_at hl 0 rfl) ?_
    refine g_get (v := .int nP) S hK hP (hB0 0 _ rfl) rfl inX7 5 (by decide) qw66 rfl dX7_addPerson_15 ?_
    refine lv_iload_n S.1 S.2.1 dX7_addPerson_18 rfl (lv_at hl 1 rfl) ?_
    refine g_aft0 (st1 := []) (g_SN (As := [.ref (α (k + 3)), .int nP, .int nm]) (rest := []) S ms_X11_setCell qn_RX7_51 (c_X11_setCell l D A w α (k + 3) 20 pNames nP nm (hB0 3 _ rfl) (by first | assumption | exact vin_d (by decide) | exact vp_in_nI (by omega) (by decide) | decide | omega)) hK hP hD hE hS rfl rfl hl.1 (Nat.le_of_ble_eq_true rfl) rfl rfl ⟨(Nat.le_of_ble_eq_true rfl), (Nat.le_of_ble_eq_true rfl)⟩ ⟨(Nat.le_of_ble_eq_true rfl), (Nat.le_of_ble_eq_true rfl)⟩ dX7_addPerson_19) hS rfl (fun w1 H locs hQ hP hD hS => ?_)
    have hw := hQ
    have hF := Same.set hF 3 hw (by decide)
    have hB0 : Blk w1 k (cSetup D α k nums bNames (f_X11_setCell 20 pNames nP nm) fBoats nB nP) := hB0.set 3 hw (Nat.le_of_ble_eq_true rfl) rfl
    refine lv_aload_n S.1 S.2.1 dX7_addPerson_22 rfl (lv_at hl 0 rfl) ?_
    refine g_get (v := .ref (α (k + 4))) S hK hP (hB0 0 _ rfl) rfl inX7 3 (by decide) qw64 rfl dX7_addPerson_23 ?_
    refine lv_aload_n S.1 S.2.1 dX7_addPerson_26 rfl (lv_at hl 0 rfl) ?_
    refine g_get (v := .int nP) S hK hP (hB0 0 _ rfl) rfl inX7 5 (by decide) qw66 rfl dX7_addPerson_27 ?_
    refine lv_iload_n S.1 S.2.1 dX7_addPerson_30 rfl (lv_at hl 2 rfl) ?_
    refine g_aft0 (st1 := []) (g_SN (As := [.ref (α (k + 4)), .int nP, .int b]) (rest := []) S ms_X11_setCell qn_RX7_51 (c_X11_setCell l D A w1 α (k + 4) 20 fBoats nP b (hB0 4 _ rfl) (by first | assumption | exact vin_d (by decide) | exact vp_in_nI (by omega) (by decide) | decide | omega)) hK hP hD hE hS rfl rfl hl.1 (Nat.le_of_ble_eq_true rfl) rfl rfl ⟨(Nat.le_of_ble_eq_true rfl), (Nat.le_of_ble_eq_true rfl)⟩ ⟨(Nat.le_of_ble_eq_true rfl), (Nat.le_of_ble_eq_true rfl)⟩ dX7_addPerson_31) hS rfl (fun w2 H locs hQ hP hD hS => ?_)
    have hw := hQ
    have hF := Same.set hF 4 hw (by decide)
    have hB0 : Blk w2 k (cSetup D α k nums bNames (f_X11_setCell 20 pNames nP nm) (f_X11_setCell 20 fBoats nP b) nB nP) := hB0.set 4 hw (Nat.le_of_ble_eq_true rfl) rfl
    refine lv_aload_n S.1 S.2.1 dX7_addPerson_34 rfl (lv_at hl 0 rfl) ?_
    refine lv_dup S.1 S.2.1 dX7_addPerson_35 rfl ?_
    refine g_get (v := .int nP) S hK hP (hB0 0 _ rfl) rfl inX7 5 (by decide) qw66 rfl dX7_addPerson_36 ?_
    refine lv_iconst (v := 1) S.1 S.2.1 dX7_addPerson_39 (by decide) ?_
    refine lv_iadd S.1 S.2.1 dX7_addPerson_40 ?_
    refine g_put S hK hP hD hS (hB0 0 _ rfl) rfl inX7 tyX7_ok nmX7 5 (by decide) qw66 rfl rfl rfl (Nat.le_of_ble_eq_true rfl) dX7_addPerson_41 (fun w3 H locs hw hP hD hS => ?_)
    have hF := Same.set hF 0 hw (by decide)
    have hB0 : Blk w3 k (cSetup D α k nums bNames (f_X11_setCell 20 pNames nP nm) (f_X11_setCell 20 fBoats nP b) nB (nP + 1)) := hB0.set 0 hw (Nat.le_of_ble_eq_true rfl) rfl
    have hf : (f_X7_addPerson pNames fBoats nP nm b) = ((f_X11_setCell 20 fBoats nP b), (nP + 1), (f_X11_setCell 20 pNames nP nm)) := if_pos c1
    exact g_vret S hr hlk hP hD hS (rfl) (⟨by rw [hf]; exact hB0, hF⟩) dX7_addPerson_44
  · have hf : (f_X7_addPerson pNames fBoats nP nm b) = (fBoats, nP, pNames) := if_neg c1
    exact g_vret S hr hlk hP hD hS (rfl) (⟨by rw [hf]; exact hB0, hF⟩) dX7_addPerson_9
def f_X7_boatName (bNames : Nat → Int32) (b : Int32) : Int32 := (f_X11_cell 6 bNames b 0)
set_option maxHeartbeats 4000000 in
set_option maxRecDepth 100000 in
theorem c_X7_boatName (l : Launch) (D : va_G) (A : Nat → Prop) (w : va_W) (α : Nat → Nat) (k : Nat) (nums : Nat → Int32) (bNames : Nat → Int32) (pNames : Nat → Int32) (fBoats : Nat → Int32) (nB : Int32) (nP : Int32) (b : Int32) (hB0 : Blk w k (cSetup D α k nums bNames pNames fBoats nB nP)) : Met l yX7_boatName (ws_ yX7_boatName cX7_boatName 2 (some .int)) ({ frames := 1, cells := 0, slots := 0, locals := 22 }) (gPre D A [.ref (α (k)), .int b] w) (gR (some (.int (f_X7_boatName bNames b)))) 0 0 A := by
  refine g_met [(0, .ref (α (k))), (1, .int b)] (plainFor_of_name (by decide)) (Nat.le_of_ble_eq_true rfl) rfl (fun pg en s mi ar below me co ls S hK hP hD hE hS hr hlk hnm hl => ?_)
  refine lv_aload_n S.1 S.2.1 dX7_boatName_0 rfl (lv_at hl 0 rfl) ?_
  refine g_get (v := .ref (α (k + 2))) S hK hP (hB0 0 _ rfl) rfl inX7 1 (by decide) qw62 rfl dX7_boatName_1 ?_
  refine lv_iload_n S.1 S.2.1 dX7_boatName_4 rfl (lv_at hl 1 rfl) ?_
  refine lv_iconst (v := 0) S.1 S.2.1 dX7_boatName_5 (by decide) ?_
  refine g_aftR0 (st1 := [.int (f_X11_cell 6 bNames b 0)]) (g_SN (As := [.ref (α (k + 2)), .int b, .int 0]) (rest := []) S ms_X11_cell qn_RX7_47 (c_X11_cell l D A w α (k + 2) 6 bNames b 0 (hB0 2 _ rfl) (by first | assumption | exact vin_d (by decide) | exact vp_in_nI (by omega) (by decide) | decide | omega)) hK hP hD hE hS rfl rfl hl.1 (Nat.le_of_ble_eq_true rfl) rfl rfl ⟨(Nat.le_of_ble_eq_true rfl), (Nat.le_of_ble_eq_true rfl)⟩ ⟨(Nat.le_of_ble_eq_true rfl), (Nat.le_of_ble_eq_true rfl)⟩ dX7_boatName_6) hS rfl (fun locs hS => ?_)
  have hf : (f_X7_boatName bNames b) = (f_X11_cell 6 bNames b 0) := rfl
  exact g_iretR S hr hlk hS (by rw [hf] <;> rfl) dX7_boatName_9
def f_X7_personName (pNames : Nat → Int32) (b : Int32) : Int32 := (f_X11_cell 20 pNames b 0)
set_option maxHeartbeats 4000000 in
set_option maxRecDepth 100000 in
theorem c_X7_personName (l : Launch) (D : va_G) (A : Nat → Prop) (w : va_W) (α : Nat → Nat) (k : Nat) (nums : Nat → Int32) (bNames : Nat → Int32) (pNames : Nat → Int32) (fBoats : Nat → Int32) (nB : Int32) (nP : Int32) (b : Int32) (hB0 : Blk w k (cSetup D α k nums bNames pNames fBoats nB nP)) : Met l yX7_personName (ws_ yX7_personName cX7_personName 2 (some .int)) ({ frames := 1, cells := 0, slots := 0, locals := 22 }) (gPre D A [.ref (α (k)), .int b] w) (gR (some (.int (f_X7_personName pNames b)))) 0 0 A := by
  refine g_met [(0, .ref (α (k))), (1, .int b)] (plainFor_of_name (by decide)) (Nat.le_of_ble_eq_true rfl) rfl (fun pg en s mi ar below me co ls S hK hP hD hE hS hr hlk hnm hl => ?_)
  refine lv_aload_n S.1 S.2.1 dX7_personName_0 rfl (lv_at hl 0 rfl) ?_
  refine g_get (v := .ref (α (k + 3))) S hK hP (hB0 0 _ rfl) rfl inX7 2 (by decide) qw63 rfl dX7_personName_1 ?_
  refine lv_iload_n S.1 S.2.1 dX7_personName_4 rfl (lv_at hl 1 rfl) ?_
  refine lv_iconst (v := 0) S.1 S.2.1 dX7_personName_5 (by decide) ?_
  refine g_aftR0 (st1 := [.int (f_X11_cell 20 pNames b 0)]) (g_SN (As := [.ref (α (k + 3)), .int b, .int 0]) (rest := []) S ms_X11_cell qn_RX7_47 (c_X11_cell l D A w α (k + 3) 20 pNames b 0 (hB0 3 _ rfl) (by first | assumption | exact vin_d (by decide) | exact vp_in_nI (by omega) (by decide) | decide | omega)) hK hP hD hE hS rfl rfl hl.1 (Nat.le_of_ble_eq_true rfl) rfl rfl ⟨(Nat.le_of_ble_eq_true rfl), (Nat.le_of_ble_eq_true rfl)⟩ ⟨(Nat.le_of_ble_eq_true rfl), (Nat.le_of_ble_eq_true rfl)⟩ dX7_personName_6) hS rfl (fun locs hS => ?_)
  have hf : (f_X7_personName pNames b) = (f_X11_cell 20 pNames b 0) := rfl
  exact g_iretR S hr hlk hS (by rw [hf] <;> rfl) dX7_personName_9
def f_X7_firstBoatOf (fBoats : Nat → Int32) (b : Int32) : Int32 := (f_X11_cell 20 fBoats b (-2))
set_option maxHeartbeats 4000000 in
set_option maxRecDepth 100000 in
theorem c_X7_firstBoatOf (l : Launch) (D : va_G) (A : Nat → Prop) (w : va_W) (α : Nat → Nat) (k : Nat) (nums : Nat → Int32) (bNames : Nat → Int32) (pNames : Nat → Int32) (fBoats : Nat → Int32) (nB : Int32) (nP : Int32) (b : Int32) (hB0 : Blk w k (cSetup D α k nums bNames pNames fBoats nB nP)) : Met l yX7_firstBoatOf (ws_ yX7_firstBoatOf cX7_firstBoatOf 2 (some .int)) ({ frames := 1, cells := 0, slots := 0, locals := 22 }) (gPre D A [.ref (α (k)), .int b] w) (gR (some (.int (f_X7_firstBoatOf fBoats b)))) 0 0 A := by
  refine g_met [(0, .ref (α (k))), (1, .int b)] (plainFor_of_name (by decide)) (Nat.le_of_ble_eq_true rfl) rfl (fun pg en s mi ar below me co ls S hK hP hD hE hS hr hlk hnm hl => ?_)
  refine lv_aload_n S.1 S.2.1 dX7_firstBoatOf_0 rfl (lv_at hl 0 rfl) ?_
  refine g_get (v := .ref (α (k + 4))) S hK hP (hB0 0 _ rfl) rfl inX7 3 (by decide) qw64 rfl dX7_firstBoatOf_1 ?_
  refine lv_iload_n S.1 S.2.1 dX7_firstBoatOf_4 rfl (lv_at hl 1 rfl) ?_
  refine lv_bipush (v := (-2)) S.1 S.2.1 dX7_firstBoatOf_5 (by decide) ?_
  refine g_aftR0 (st1 := [.int (f_X11_cell 20 fBoats b (-2))]) (g_SN (As := [.ref (α (k + 4)), .int b, .int (-2)]) (rest := []) S ms_X11_cell qn_RX7_47 (c_X11_cell l D A w α (k + 4) 20 fBoats b (-2) (hB0 4 _ rfl) (by first | assumption | exact vin_d (by decide) | exact vp_in_nI (by omega) (by decide) | decide | omega)) hK hP hD hE hS rfl rfl hl.1 (Nat.le_of_ble_eq_true rfl) rfl rfl ⟨(Nat.le_of_ble_eq_true rfl), (Nat.le_of_ble_eq_true rfl)⟩ ⟨(Nat.le_of_ble_eq_true rfl), (Nat.le_of_ble_eq_true rfl)⟩ dX7_firstBoatOf_7) hS rfl (fun locs hS => ?_)
  have hf : (f_X7_firstBoatOf fBoats b) = (f_X11_cell 20 fBoats b (-2)) := rfl
  exact g_iretR S hr hlk hS (by rw [hf] <;> rfl) dX7_firstBoatOf_10
