def f_X2_copyFrom (boatO : Nat → Int32) (seaO : Nat → Int32) (faultO : Nat → Int32) (daysO : Nat → Int32) (backB : Nat → Int32) (sailB : Nat → Int32) (boatO2 : Nat → Int32) (seaO2 : Nat → Int32) (faultO2 : Nat → Int32) (daysO2 : Nat → Int32) (backB2 : Nat → Int32) (sailB2 : Nat → Int32) : (Nat → Int32) × (Nat → Int32) × (Nat → Int32) × (Nat → Int32) × (Nat → Int32) × (Nat → Int32) := ((f_X11_copyRow 6 backB2 6 backB), (f_X11_copyRow 20 boatO2 20 boatO), (f_X11_copyRow 20 daysO2 20 daysO), (f_X11_copyRow 20 faultO2 20 faultO), (f_X11_copyRow 6 sailB2 6 sailB), (f_X11_copyRow 20 seaO2 20 seaO))
set_option maxHeartbeats 4000000 in
set_option maxRecDepth 100000 in
theorem c_X2_copyFrom (l : Launch) (D : va_G) (A : Nat → Prop) (w : va_W) (α : Nat → Nat) (k : Nat) (boatO : Nat → Int32) (seaO : Nat → Int32) (faultO : Nat → Int32) (daysO : Nat → Int32) (backB : Nat → Int32) (sailB : Nat → Int32) (k2 : Nat) (boatO2 : Nat → Int32) (seaO2 : Nat → Int32) (faultO2 : Nat → Int32) (daysO2 : Nat → Int32) (backB2 : Nat → Int32) (sailB2 : Nat → Int32) (hB0 : Blk w k (cFleet D α k boatO seaO faultO daysO backB sailB)) (hB1 : Blk w k2 (cFleet D α k2 boatO2 seaO2 faultO2 daysO2 backB2 sailB2)) (hd1 : k2 + 7 ≤ k ∨ k + 7 ≤ k2) : Met l yX2_copyFrom (ws_ yX2_copyFrom cX2_copyFrom 2 none) ({ frames := 2, cells := 0, slots := 0, locals := 61 }) (gPre D A [.ref (α (k)), .ref (α (k2))] w) (gQ D A none (fun w1 => Blk w1 k (cFleet D α k ((f_X2_copyFrom boatO seaO faultO daysO backB sailB boatO2 seaO2 faultO2 daysO2 backB2 sailB2).2.1) ((f_X2_copyFrom boatO seaO faultO daysO backB sailB boatO2 seaO2 faultO2 daysO2 backB2 sailB2).2.2.2.2.2) ((f_X2_copyFrom boatO seaO faultO daysO backB sailB boatO2 seaO2 faultO2 daysO2 backB2 sailB2).2.2.2.1) ((f_X2_copyFrom boatO seaO faultO daysO backB sailB boatO2 seaO2 faultO2 daysO2 backB2 sailB2).2.2.1) ((f_X2_copyFrom boatO seaO faultO daysO backB sailB boatO2 seaO2 faultO2 daysO2 backB2 sailB2).1) ((f_X2_copyFrom boatO seaO faultO daysO backB sailB boatO2 seaO2 faultO2 daysO2 backB2 sailB2).2.2.2.2.1)) ∧ Same w w1 k 7)) 0 0 A := by
  refine g_met [(0, .ref (α (k))), (1, .ref (α (k2)))] (plainFor_of_name (by decide)) (Nat.le_of_ble_eq_true rfl) rfl (fun pg en s mi ar below me co ls S hK hP hD hE hS hr hlk hnm hl => ?_)
  have hF : Same w w k 7 := Same.rf
  refine lv_aload_n S.1 S.2.1 dX2_copyFrom_0 rfl (lv_at hl 1 rfl) ?_
  refine g_get (v := .ref (α (k2 + 1))) S hK hP (hB1 0 _ rfl) rfl inX2 0 (by decide) qw119 rfl dX2_copyFrom_1 ?_
  refine lv_aload_n S.1 S.2.1 dX2_copyFrom_4 rfl (lv_at hl 0 rfl) ?_
  refine g_get (v := .ref (α (k + 1))) S hK hP (hB0 0 _ rfl) rfl inX2 0 (by decide) qw119 rfl dX2_copyFrom_5 ?_
  refine g_aft0 (st1 := []) (g_SN (As := [.ref (α (k2 + 1)), .ref (α (k + 1))]) (rest := []) S ms_X11_copyRow qn_RX2_44 (c_X11_copyRow l D A w α (k2 + 1) 20 boatO2 (k + 1) 20 boatO (hB1 1 _ rfl) (hB0 1 _ rfl) (by first | assumption | exact vin_d (by decide) | exact vp_in_nI (by omega) (by decide) | decide | omega) (by first | assumption | exact vin_d (by decide) | exact vp_in_nI (by omega) (by decide) | decide | omega)) hK hP hD hE hS rfl rfl hl.1 (Nat.le_of_ble_eq_true rfl) rfl rfl ⟨(Nat.le_of_ble_eq_true rfl), (Nat.le_of_ble_eq_true rfl)⟩ ⟨(Nat.le_of_ble_eq_true rfl), (Nat.le_of_ble_eq_true rfl)⟩ dX2_copyFrom_8) hS rfl (fun w1 H locs hQ hP hD hS => ?_)
  have hw := hQ
  have hF := Same.set hF 1 hw (by decide)
  have hB0 : Blk w1 k (cFleet D α k (f_X11_copyRow 20 boatO2 20 boatO) seaO faultO daysO backB sailB) := hB0.set 1 hw (Nat.le_of_ble_eq_true rfl) rfl
  refine lv_aload_n S.1 S.2.1 dX2_copyFrom_11 rfl (lv_at hl 1 rfl) ?_
  refine g_get (v := .ref (α (k2 + 2))) S hK hP ((hB1.other hF hd1) 0 _ rfl) rfl inX2 1 (by decide) qw120 rfl dX2_copyFrom_12 ?_
  refine lv_aload_n S.1 S.2.1 dX2_copyFrom_15 rfl (lv_at hl 0 rfl) ?_
  refine g_get (v := .ref (α (k + 2))) S hK hP (hB0 0 _ rfl) rfl inX2 1 (by decide) qw120 rfl dX2_copyFrom_16 ?_
  refine g_aft0 (st1 := []) (g_SN (As := [.ref (α (k2 + 2)), .ref (α (k + 2))]) (rest := []) S ms_X11_copyRow qn_RX2_44 (c_X11_copyRow l D A w1 α (k2 + 2) 20 seaO2 (k + 2) 20 seaO ((hB1.other hF hd1) 2 _ rfl) (hB0 2 _ rfl) (by first | assumption | exact vin_d (by decide) | exact vp_in_nI (by omega) (by decide) | decide | omega) (by first | assumption | exact vin_d (by decide) | exact vp_in_nI (by omega) (by decide) | decide | omega)) hK hP hD hE hS rfl rfl hl.1 (Nat.le_of_ble_eq_true rfl) rfl rfl ⟨(Nat.le_of_ble_eq_true rfl), (Nat.le_of_ble_eq_true rfl)⟩ ⟨(Nat.le_of_ble_eq_true rfl), (Nat.le_of_ble_eq_true rfl)⟩ dX2_copyFrom_19) hS rfl (fun w2 H locs hQ hP hD hS => ?_)
  have hw := hQ
  have hF := Same.set hF 2 hw (by decide)
  have hB0 : Blk w2 k (cFleet D α k (f_X11_copyRow 20 boatO2 20 boatO) (f_X11_copyRow 20 seaO2 20 seaO) faultO daysO backB sailB) := hB0.set 2 hw (Nat.le_of_ble_eq_true rfl) rfl
  refine lv_aload_n S.1 S.2.1 dX2_copyFrom_22 rfl (lv_at hl 1 rfl) ?_
  refine g_get (v := .ref (α (k2 + 3))) S hK hP ((hB1.other hF hd1) 0 _ rfl) rfl inX2 2 (by decide) qw121 rfl dX2_copyFrom_23 ?_
  refine lv_aload_n S.1 S.2.1 dX2_copyFrom_26 rfl (lv_at hl 0 rfl) ?_
  refine g_get (v := .ref (α (k + 3))) S hK hP (hB0 0 _ rfl) rfl inX2 2 (by decide) qw121 rfl dX2_copyFrom_27 ?_
  refine g_aft0 (st1 := []) (g_SN (As := [.ref (α (k2 + 3)), .ref (α (k + 3))]) (rest := []) S ms_X11_copyRow qn_RX2_44 (c_X11_copyRow l D A w2 α (k2 + 3) 20 faultO2 (k + 3) 20 faultO ((hB1.other hF hd1) 3 _ rfl) (hB0 3 _ rfl) (by first | assumption | exact vin_d (by decide) | exact vp_in_nI (by omega) (by decide) | decide | omega) (by first | assumption | exact vin_d (by decide) | exact vp_in_nI (by omega) (by decide) | decide | omega)) hK hP hD hE hS rfl rfl hl.1 (Nat.le_of_ble_eq_true rfl) rfl rfl ⟨(Nat.le_of_ble_eq_true rfl), (Nat.le_of_ble_eq_true rfl)⟩ ⟨(Nat.le_of_ble_eq_true rfl), (Nat.le_of_ble_eq_true rfl)⟩ dX2_copyFrom_30) hS rfl (fun w3 H locs hQ hP hD hS => ?_)
  have hw := hQ
  have hF := Same.set hF 3 hw (by decide)
  have hB0 : Blk w3 k (cFleet D α k (f_X11_copyRow 20 boatO2 20 boatO) (f_X11_copyRow 20 seaO2 20 seaO) (f_X11_copyRow 20 faultO2 20 faultO) daysO backB sailB) := hB0.set 3 hw (Nat.le_of_ble_eq_true rfl) rfl
  refine lv_aload_n S.1 S.2.1 dX2_copyFrom_33 rfl (lv_at hl 1 rfl) ?_
  refine g_get (v := .ref (α (k2 + 4))) S hK hP ((hB1.other hF hd1) 0 _ rfl) rfl inX2 3 (by decide) qw122 rfl dX2_copyFrom_34 ?_
  refine lv_aload_n S.1 S.2.1 dX2_copyFrom_37 rfl (lv_at hl 0 rfl) ?_
  refine g_get (v := .ref (α (k + 4))) S hK hP (hB0 0 _ rfl) rfl inX2 3 (by decide) qw122 rfl dX2_copyFrom_38 ?_
  refine g_aft0 (st1 := []) (g_SN (As := [.ref (α (k2 + 4)), .ref (α (k + 4))]) (rest := []) S ms_X11_copyRow qn_RX2_44 (c_X11_copyRow l D A w3 α (k2 + 4) 20 daysO2 (k + 4) 20 daysO ((hB1.other hF hd1) 4 _ rfl) (hB0 4 _ rfl) (by first | assumption | exact vin_d (by decide) | exact vp_in_nI (by omega) (by decide) | decide | omega) (by first | assumption | exact vin_d (by decide) | exact vp_in_nI (by omega) (by decide) | decide | omega)) hK hP hD hE hS rfl rfl hl.1 (Nat.le_of_ble_eq_true rfl) rfl rfl ⟨(Nat.le_of_ble_eq_true rfl), (Nat.le_of_ble_eq_true rfl)⟩ ⟨(Nat.le_of_ble_eq_true rfl), (Nat.le_of_ble_eq_true rfl)⟩ dX2_copyFrom_41) hS rfl (fun w4 H locs hQ hP hD hS => ?_)
  have hw := hQ
  have hF := Same.set hF 4 hw (by decide)
  have hB0 : Blk w4 k (cFleet D α k (f_X11_copyRow 20 boatO2 20 boatO) (f_X11_copyRow 20 seaO2 20 seaO) (f_X11_copyRow 20 faultO2 20 faultO) (f_X11_copyRow 20 daysO2 20 daysO) backB sailB) := hB0.set 4 hw (Nat.le_of_ble_eq_true rfl) rfl
  refine lv_aload_n S.1 S.2.1 dX2_copyFrom_44 rfl (lv_at hl 1 rfl) ?_
  refine g_get (v := .ref (α (k2 + 5))) S hK hP ((hB1.other hF hd1) 0 _ rfl) rfl inX2 4 (by decide) qw123 rfl dX2_copyFrom_45 ?_
  refine lv_aload_n S.1 S.2.1 dX2_copyFrom_48 rfl (lv_at hl 0 rfl) ?_
  refine g_get (v := .ref (α (k + 5))) S hK hP (hB0 0 _ rfl) rfl inX2 4 (by decide) qw123 rfl dX2_copyFrom_49 ?_
  refine g_aft0 (st1 := []) (g_SN (As := [.ref (α (k2 + 5)), .ref (α (k + 5))]) (rest := []) S ms_X11_copyRow qn_RX2_44 (c_X11_copyRow l D A w4 α (k2 + 5) 6 backB2 (k + 5) 6 backB ((hB1.other hF hd1) 5 _ rfl) (hB0 5 _ rfl) (by first | assumption | exact vin_d (by decide) | exact vp_in_nI (by omega) (by decide) | decide | omega) (by first | assumption | exact vin_d (by decide) | exact vp_in_nI (by omega) (by decide) | decide | omega)) hK hP hD hE hS rfl rfl hl.1 (Nat.le_of_ble_eq_true rfl) rfl rfl ⟨(Nat.le_of_ble_eq_true rfl), (Nat.le_of_ble_eq_true rfl)⟩ ⟨(Nat.le_of_ble_eq_true rfl), (Nat.le_of_ble_eq_true rfl)⟩ dX2_copyFrom_52) hS rfl (fun w5 H locs hQ hP hD hS => ?_)
  have hw := hQ
  have hF := Same.set hF 5 hw (by decide)
  have hB0 : Blk w5 k (cFleet D α k (f_X11_copyRow 20 boatO2 20 boatO) (f_X11_copyRow 20 seaO2 20 seaO) (f_X11_copyRow 20 faultO2 20 faultO) (f_X11_copyRow 20 daysO2 20 daysO) (f_X11_copyRow 6 backB2 6 backB) sailB) := hB0.set 5 hw (Nat.le_of_ble_eq_true rfl) rfl
  refine lv_aload_n S.1 S.2.1 dX2_copyFrom_55 rfl (lv_at hl 1 rfl) ?_
  refine g_get (v := .ref (α (k2 + 6))) S hK hP ((hB1.other hF hd1) 0 _ rfl) rfl inX2 5 (by decide) qw124 rfl dX2_copyFrom_56 ?_
  refine lv_aload_n S.1 S.2.1 dX2_copyFrom_59 rfl (lv_at hl 0 rfl) ?_
  refine g_get (v := .ref (α (k + 6))) S hK hP (hB0 0 _ rfl) rfl inX2 5 (by decide) qw124 rfl dX2_copyFrom_60 ?_
  refine g_aft0 (st1 := []) (g_SN (As := [.ref (α (k2 + 6)), .ref (α (k + 6))]) (rest := []) S ms_X11_copyRow qn_RX2_44 (c_X11_copyRow l D A w5 α (k2 + 6) 6 sailB2 (k + 6) 6 sailB ((hB1.other hF hd1) 6 _ rfl) (hB0 6 _ rfl) (by first | assumption | exact vin_d (by decide) | exact vp_in_nI (by omega) (by decide) | decide | omega) (by first | assumption | exact vin_d (by decide) | exact vp_in_nI (by omega) (by decide) | decide | omega)) hK hP hD hE hS rfl rfl hl.1 (Nat.le_of_ble_eq_true rfl) rfl rfl ⟨(Nat.le_of_ble_eq_true rfl), (Nat.le_of_ble_eq_true rfl)⟩ ⟨(Nat.le_of_ble_eq_true rfl), (Nat.le_of_ble_eq_true rfl)⟩ dX2_copyFrom_63) hS rfl (fun w6 H locs hQ hP hD hS => ?_)
  have hw := hQ
  have hF := Same.set hF 6 hw (by decide)
  have hB0 : Blk w6 k (cFleet D α k (f_X11_copyRow 20 boatO2 20 boatO) (f_X11_copyRow 20 seaO2 20 seaO) (f_X11_copyRow 20 faultO2 20 faultO) (f_X11_copyRow 20 daysO2 20 daysO) (f_X11_copyRow 6 backB2 6 backB) (f_X11_copyRow 6 sailB2 6 sailB)) := hB0.set 6 hw (Nat.le_of_ble_eq_true rfl) rfl
  have hf : (f_X2_copyFrom boatO seaO faultO daysO backB sailB boatO2 seaO2 faultO2 daysO2 backB2 sailB2) = ((f_X11_copyRow 6 backB2 6 backB), (f_X11_copyRow 20 boatO2 20 boatO), (f_X11_copyRow 20 daysO2 20 daysO), (f_X11_copyRow 20 faultO2 20 faultO), (f_X11_copyRow 6 sailB2 6 sailB), (f_X11_copyRow 20 seaO2 20 seaO)) := rfl
  exact g_vret S hr hlk hP hD hS (rfl) (⟨by rw [hf]; exact hB0, hF⟩) dX2_copyFrom_66
def L_X2_begin_2 (boatO : Nat → Int32) (fBoats : Nat → Int32) (nP : Int32) : Nat → (Nat → Int32) := iter_ (fun n sn => (if (f_X7_people nP) ≤ (nI n) then (upd sn (nI n).toNatClampNeg (-2)) else (upd sn (nI n).toNatClampNeg (f_X7_firstBoatOf fBoats (nI n))))) boatO
def f_X2_begin (boatO : Nat → Int32) (seaO : Nat → Int32) (faultO : Nat → Int32) (daysO : Nat → Int32) (backB : Nat → Int32) (sailB : Nat → Int32) (fBoats : Nat → Int32) (nP : Int32) : (Nat → Int32) × (Nat → Int32) × (Nat → Int32) × (Nat → Int32) × (Nat → Int32) × (Nat → Int32) := ((f_X11_fillRow 6 backB 0), (L_X2_begin_2 boatO fBoats nP 20), (f_X11_fillRow 20 daysO 0), (f_X11_fillRow 20 faultO 0), (f_X11_fillRow 6 sailB 0), (f_X11_fillRow 20 seaO 0))
set_option maxHeartbeats 4000000 in
set_option maxRecDepth 100000 in
theorem c_X2_begin (l : Launch) (D : va_G) (A : Nat → Prop) (w : va_W) (α : Nat → Nat) (k : Nat) (boatO : Nat → Int32) (seaO : Nat → Int32) (faultO : Nat → Int32) (daysO : Nat → Int32) (backB : Nat → Int32) (sailB : Nat → Int32) (k2 : Nat) (nums : Nat → Int32) (bNames : Nat → Int32) (pNames : Nat → Int32) (fBoats : Nat → Int32) (nB : Int32) (nP : Int32) (hB0 : Blk w k (cFleet D α k boatO seaO faultO daysO backB sailB)) (hB1 : Blk w k2 (cSetup D α k2 nums bNames pNames fBoats nB nP)) (hd1 : k2 + 5 ≤ k ∨ k + 7 ≤ k2) : Met l yX2_begin (ws_ yX2_begin cX2_begin 3 none) ({ frames := 2, cells := 0, slots := 0, locals := 43 }) (gPre D A [.ref (α (k)), .ref (α (k2))] w) (gQ D A none (fun w1 => Blk w1 k (cFleet D α k ((f_X2_begin boatO seaO faultO daysO backB sailB fBoats nP).2.1) ((f_X2_begin boatO seaO faultO daysO backB sailB fBoats nP).2.2.2.2.2) ((f_X2_begin boatO seaO faultO daysO backB sailB fBoats nP).2.2.2.1) ((f_X2_begin boatO seaO faultO daysO backB sailB fBoats nP).2.2.1) ((f_X2_begin boatO seaO faultO daysO backB sailB fBoats nP).1) ((f_X2_begin boatO seaO faultO daysO backB sailB fBoats nP).2.2.2.2.1)) ∧ Same w w1 k 7)) 0 0 A := by
  refine g_met [(0, .ref (α (k))), (1, .ref (α (k2)))] (plainFor_of_name (by decide)) (Nat.le_of_ble_eq_true rfl) rfl (fun pg en s mi ar below me co ls S hK hP hD hE hS hr hlk hnm hl => ?_)
  have hF : Same w w k 7 := Same.rf
  refine lv_iconst (v := 0) S.1 S.2.1 dX2_begin_0 (by decide) ?_
  refine lv_istore_n (lv' := [(2, .int 0), (0, .ref (α (k))), (1, .ref (α (k2)))]) S.1 S.2.1 dX2_begin_1 rfl hl (by decide) rfl (fun ls hl => ?_)
  have lp2 : ∀ (j n : Nat), n + j = 20 → ∀ (wl : va_W) (H : Heap) (locs : List Loc) (ls : Array Slot), va_P D vwCl wl H → va_D A wl → va_S A s.heap H locs → Same w wl k 7 → Blk wl k (cFleet D α k (L_X2_begin_2 boatO fBoats nP n) seaO faultO daysO backB sailB) → lv_has ls 3 [(2, .int (nI n)), (0, .ref (α (k))), (1, .ref (α (k2)))] → W pg l en ({ frames := 2, cells := 0, slots := 0, locals := 43 } : Room) s mi ar below me co H locs 0 0 (MQ below (gQ D A none (fun w1 => Blk w1 k (cFleet D α k ((f_X2_begin boatO seaO faultO daysO backB sailB fBoats nP).2.1) ((f_X2_begin boatO seaO faultO daysO backB sailB fBoats nP).2.2.2.2.2) ((f_X2_begin boatO seaO faultO daysO backB sailB fBoats nP).2.2.2.1) ((f_X2_begin boatO seaO faultO daysO backB sailB fBoats nP).2.2.1) ((f_X2_begin boatO seaO faultO daysO backB sailB fBoats nP).1) ((f_X2_begin boatO seaO faultO daysO backB sailB fBoats nP).2.2.2.2.1)) ∧ Same w w1 k 7)) ar s 0 0 A) (F0 mi 2 ls []) := by
    intro j
    induction j with
    | zero =>
      intro n hn wl H locs ls hP hD hS hF hB0 hl
      have hn : 20 = n := hn.symm
      subst hn
      refine lv_iload_n S.1 S.2.1 dX2_begin_2 rfl (lv_at hl 0 rfl) ?_
      refine lv_aload_n S.1 S.2.1 dX2_begin_3 rfl (lv_at hl 1 rfl) ?_
      refine g_get (v := .ref (α (k + 1))) S hK hP (hB0 0 _ rfl) rfl inX2 0 (by decide) qw119 rfl dX2_begin_4 ?_
      refine g_alen (v := 20) S hK hP (hB0 1 _ rfl) 0 rfl rfl dX2_begin_7 ?_
      refine lv_icmp_ge (tgt := 41) S.1 S.2.1 dX2_begin_8 (by decide) (fun (c1 : 20 ≤ (nI 20)) => ?_) (fun (c1 : ¬ 20 ≤ (nI 20)) => absurd c1 (lp_out (s := 0) (by decide)))
      refine lv_aload_n S.1 S.2.1 dX2_begin_41 rfl (lv_at hl 1 rfl) ?_
      refine g_get (v := .ref (α (k + 2))) S hK hP (hB0 0 _ rfl) rfl inX2 1 (by decide) qw120 rfl dX2_begin_42 ?_
      refine lv_iconst (v := 0) S.1 S.2.1 dX2_begin_45 (by decide) ?_
      refine g_aft0 (st1 := []) (g_SN (As := [.ref (α (k + 2)), .int 0]) (rest := []) S ms_X11_fillRow qn_RX2_40 (c_X11_fillRow l D A wl α (k + 2) 20 seaO 0 (hB0 2 _ rfl) (by first | assumption | exact vin_d (by decide) | exact vp_in_nI (by omega) (by decide) | decide | omega)) hK hP hD hE hS rfl rfl hl.1 (Nat.le_of_ble_eq_true rfl) rfl rfl ⟨(Nat.le_of_ble_eq_true rfl), (Nat.le_of_ble_eq_true rfl)⟩ ⟨(Nat.le_of_ble_eq_true rfl), (Nat.le_of_ble_eq_true rfl)⟩ dX2_begin_46) hS rfl (fun w1 H locs hQ hP hD hS => ?_)
      have hw := hQ
      have hF := Same.set hF 2 hw (by decide)
      have hB0 : Blk w1 k (cFleet D α k (L_X2_begin_2 boatO fBoats nP 20) (f_X11_fillRow 20 seaO 0) faultO daysO backB sailB) := hB0.set 2 hw (Nat.le_of_ble_eq_true rfl) rfl
      refine lv_aload_n S.1 S.2.1 dX2_begin_49 rfl (lv_at hl 1 rfl) ?_
      refine g_get (v := .ref (α (k + 3))) S hK hP (hB0 0 _ rfl) rfl inX2 2 (by decide) qw121 rfl dX2_begin_50 ?_
      refine lv_iconst (v := 0) S.1 S.2.1 dX2_begin_53 (by decide) ?_
      refine g_aft0 (st1 := []) (g_SN (As := [.ref (α (k + 3)), .int 0]) (rest := []) S ms_X11_fillRow qn_RX2_40 (c_X11_fillRow l D A w1 α (k + 3) 20 faultO 0 (hB0 3 _ rfl) (by first | assumption | exact vin_d (by decide) | exact vp_in_nI (by omega) (by decide) | decide | omega)) hK hP hD hE hS rfl rfl hl.1 (Nat.le_of_ble_eq_true rfl) rfl rfl ⟨(Nat.le_of_ble_eq_true rfl), (Nat.le_of_ble_eq_true rfl)⟩ ⟨(Nat.le_of_ble_eq_true rfl), (Nat.le_of_ble_eq_true rfl)⟩ dX2_begin_54) hS rfl (fun w2 H locs hQ hP hD hS => ?_)
      have hw := hQ
      have hF := Same.set hF 3 hw (by decide)
      have hB0 : Blk w2 k (cFleet D α k (L_X2_begin_2 boatO fBoats nP 20) (f_X11_fillRow 20 seaO 0) (f_X11_fillRow 20 faultO 0) daysO backB sailB) := hB0.set 3 hw (Nat.le_of_ble_eq_true rfl) rfl
      refine lv_aload_n S.1 S.2.1 dX2_begin_57 rfl (lv_at hl 1 rfl) ?_
      refine g_get (v := .ref (α (k + 4))) S hK hP (hB0 0 _ rfl) rfl inX2 3 (by decide) qw122 rfl dX2_begin_58 ?_
      refine lv_iconst (v := 0) S.1 S.2.1 dX2_begin_61 (by decide) ?_
      refine g_aft0 (st1 := []) (g_SN (As := [.ref (α (k + 4)), .int 0]) (rest := []) S ms_X11_fillRow qn_RX2_40 (c_X11_fillRow l D A w2 α (k + 4) 20 daysO 0 (hB0 4 _ rfl) (by first | assumption | exact vin_d (by decide) | exact vp_in_nI (by omega) (by decide) | decide | omega)) hK hP hD hE hS rfl rfl hl.1 (Nat.le_of_ble_eq_true rfl) rfl rfl ⟨(Nat.le_of_ble_eq_true rfl), (Nat.le_of_ble_eq_true rfl)⟩ ⟨(Nat.le_of_ble_eq_true rfl), (Nat.le_of_ble_eq_true rfl)⟩ dX2_begin_62) hS rfl (fun w3 H locs hQ hP hD hS => ?_)
      have hw := hQ
      have hF := Same.set hF 4 hw (by decide)
      have hB0 : Blk w3 k (cFleet D α k (L_X2_begin_2 boatO fBoats nP 20) (f_X11_fillRow 20 seaO 0) (f_X11_fillRow 20 faultO 0) (f_X11_fillRow 20 daysO 0) backB sailB) := hB0.set 4 hw (Nat.le_of_ble_eq_true rfl) rfl
      refine lv_aload_n S.1 S.2.1 dX2_begin_65 rfl (lv_at hl 1 rfl) ?_
      refine g_get (v := .ref (α (k + 5))) S hK hP (hB0 0 _ rfl) rfl inX2 4 (by decide) qw123 rfl dX2_begin_66 ?_
      refine lv_iconst (v := 0) S.1 S.2.1 dX2_begin_69 (by decide) ?_
      refine g_aft0 (st1 := []) (g_SN (As := [.ref (α (k + 5)), .int 0]) (rest := []) S ms_X11_fillRow qn_RX2_40 (c_X11_fillRow l D A w3 α (k + 5) 6 backB 0 (hB0 5 _ rfl) (by first | assumption | exact vin_d (by decide) | exact vp_in_nI (by omega) (by decide) | decide | omega)) hK hP hD hE hS rfl rfl hl.1 (Nat.le_of_ble_eq_true rfl) rfl rfl ⟨(Nat.le_of_ble_eq_true rfl), (Nat.le_of_ble_eq_true rfl)⟩ ⟨(Nat.le_of_ble_eq_true rfl), (Nat.le_of_ble_eq_true rfl)⟩ dX2_begin_70) hS rfl (fun w4 H locs hQ hP hD hS => ?_)
      have hw := hQ
      have hF := Same.set hF 5 hw (by decide)
      have hB0 : Blk w4 k (cFleet D α k (L_X2_begin_2 boatO fBoats nP 20) (f_X11_fillRow 20 seaO 0) (f_X11_fillRow 20 faultO 0) (f_X11_fillRow 20 daysO 0) (f_X11_fillRow 6 backB 0) sailB) := hB0.set 5 hw (Nat.le_of_ble_eq_true rfl) rfl
      refine lv_aload_n S.1 S.2.1 dX2_begin_73 rfl (lv_at hl 1 rfl) ?_
      refine g_get (v := .ref (α (k + 6))) S hK hP (hB0 0 _ rfl) rfl inX2 5 (by decide) qw124 rfl dX2_begin_74 ?_
      refine lv_iconst (v := 0) S.1 S.2.1 dX2_begin_77 (by decide) ?_
      refine g_aft0 (st1 := []) (g_SN (As := [.ref (α (k + 6)), .int 0]) (rest := []) S ms_X11_fillRow qn_RX2_40 (c_X11_fillRow l D A w4 α (k + 6) 6 sailB 0 (hB0 6 _ rfl) (by first | assumption | exact vin_d (by decide) | exact vp_in_nI (by omega) (by decide) | decide | omega)) hK hP hD hE hS rfl rfl hl.1 (Nat.le_of_ble_eq_true rfl) rfl rfl ⟨(Nat.le_of_ble_eq_true rfl), (Nat.le_of_ble_eq_true rfl)⟩ ⟨(Nat.le_of_ble_eq_true rfl), (Nat.le_of_ble_eq_true rfl)⟩ dX2_begin_78) hS rfl (fun w5 H locs hQ hP hD hS => ?_)
      have hw := hQ
      have hF := Same.set hF 6 hw (by decide)
      have hB0 : Blk w5 k (cFleet D α k (L_X2_begin_2 boatO fBoats nP 20) (f_X11_fillRow 20 seaO 0) (f_X11_fillRow 20 faultO 0) (f_X11_fillRow 20 daysO 0) (f_X11_fillRow 6 backB 0) (f_X11_fillRow 6 sailB 0)) := hB0.set 6 hw (Nat.le_of_ble_eq_true rfl) rfl
      have hf : (f_X2_begin boatO seaO faultO daysO backB sailB fBoats nP) = ((f_X11_fillRow 6 backB 0), (L_X2_begin_2 boatO fBoats nP 20), (f_X11_fillRow 20 daysO 0), (f_X11_fillRow 20 faultO 0), (f_X11_fillRow 6 sailB 0), (f_X11_fillRow 20 seaO 0)) := rfl
      exact g_vret S hr hlk hP hD hS (rfl) (⟨by rw [hf]; exact hB0, hF⟩) dX2_begin_81
    | succ j ih =>
      intro n hn wl H locs ls hP hD hS hF hB0 hl
      refine lv_iload_n S.1 S.2.1 dX2_begin_2 rfl (lv_at hl 0 rfl) ?_
      refine lv_aload_n S.1 S.2.1 dX2_begin_3 rfl (lv_at hl 1 rfl) ?_
      refine g_get (v := .ref (α (k + 1))) S hK hP (hB0 0 _ rfl) rfl inX2 0 (by decide) qw119 rfl dX2_begin_4 ?_
      refine g_alen (v := 20) S hK hP (hB0 1 _ rfl) 0 rfl rfl dX2_begin_7 ?_
      refine lv_icmp_ge (tgt := 41) S.1 S.2.1 dX2_begin_8 (by decide) (fun (c2 : 20 ≤ (nI n)) => absurd c2 (lp_in (s := 0) (by decide) hn)) (fun (c2 : ¬ 20 ≤ (nI n)) => ?_)
      refine lv_aload_n S.1 S.2.1 dX2_begin_11 rfl (lv_at hl 1 rfl) ?_
      refine g_get (v := .ref (α (k + 1))) S hK hP (hB0 0 _ rfl) rfl inX2 0 (by decide) qw119 rfl dX2_begin_12 ?_
      refine lv_iload_n S.1 S.2.1 dX2_begin_15 rfl (lv_at hl 0 rfl) ?_
      refine lv_iload_n S.1 S.2.1 dX2_begin_16 rfl (lv_at hl 0 rfl) ?_
      refine lv_aload_n S.1 S.2.1 dX2_begin_17 rfl (lv_at hl 2 rfl) ?_
      refine g_aftR0 (st1 := [.int (f_X7_people nP), .int (nI n), .int (nI n), .ref (α (k + 1))]) (g_V (As := []) (rest := [.int (nI n), .int (nI n), .ref (α (k + 1))]) S mi_X7_people qw331 (c_X7_people l D A wl α (k2) nums bNames pNames fBoats nB nP (hB1.other hF hd1)) hK hP hD hE hS ((hB1.other hF hd1) 0 _ rfl) rfl rfl rfl hl.1 (Nat.le_of_ble_eq_true rfl) rfl rfl ⟨(Nat.le_of_ble_eq_true rfl), (Nat.le_of_ble_eq_true rfl)⟩ ⟨(Nat.le_of_ble_eq_true rfl), (Nat.le_of_ble_eq_true rfl)⟩ dX2_begin_18) hS rfl (fun locs hS => ?_)
      refine lv_icmp_ge (tgt := 32) S.1 S.2.1 dX2_begin_21 (by decide) (fun (c3 : (f_X7_people nP) ≤ (nI n)) => ?_) (fun (c3 : ¬ (f_X7_people nP) ≤ (nI n)) => ?_)
      · refine lv_bipush (v := (-2)) S.1 S.2.1 dX2_begin_32 (by decide) ?_
        refine g_iast S hK hP hD hS (hB0 1 _ rfl) (by first | assumption | exact vin_d (by decide) | exact vp_in_nI (by omega) (by decide) | decide) dX2_begin_34 (fun w6 H locs hw hP hD hS => ?_)
        have hF := Same.set hF 1 hw (by decide)
        have hB0 : Blk w6 k (cFleet D α k (upd (L_X2_begin_2 boatO fBoats nP n) (nI n).toNatClampNeg (-2)) seaO faultO daysO backB sailB) := hB0.set 1 hw (Nat.le_of_ble_eq_true rfl) rfl
        refine lv_iinc (v := (nI (n + 1))) (lv' := [(2, .int (nI (n + 1))), (0, .ref (α (k))), (1, .ref (α (k2)))]) S.1 S.2.1 dX2_begin_35 hl (k := 0) rfl ((nI_succ n).symm) (by decide) rfl (fun ls hl => ?_)
        refine lv_goto (tgt := 2) S.1 S.2.1 dX2_begin_38 (by decide) ?_
        have hL : (L_X2_begin_2 boatO fBoats nP (n + 1)) = (upd (L_X2_begin_2 boatO fBoats nP n) (nI n).toNatClampNeg (-2)) := (iter_s _ _ _).trans (if_pos c3)
        refine ih (n + 1) (by omega) _ _ _ _ hP hD hS hF ?_ ?_
        · rw [hL]; exact hB0
        · exact lv_sub hl [0, 1, 2] rfl
      · refine lv_aload_n S.1 S.2.1 dX2_begin_24 rfl (lv_at hl 2 rfl) ?_
        refine lv_iload_n S.1 S.2.1 dX2_begin_25 rfl (lv_at hl 0 rfl) ?_
        refine g_aftR0 (st1 := [.int (f_X7_firstBoatOf fBoats (nI n)), .int (nI n), .ref (α (k + 1))]) (g_V (As := [.int (nI n)]) (rest := [.int (nI n), .ref (α (k + 1))]) S mi_X7_firstBoatOf qw335 (c_X7_firstBoatOf l D A wl α (k2) nums bNames pNames fBoats nB nP (nI n) (hB1.other hF hd1)) hK hP hD hE hS ((hB1.other hF hd1) 0 _ rfl) rfl rfl rfl hl.1 (Nat.le_of_ble_eq_true rfl) rfl rfl ⟨(Nat.le_of_ble_eq_true rfl), (Nat.le_of_ble_eq_true rfl)⟩ ⟨(Nat.le_of_ble_eq_true rfl), (Nat.le_of_ble_eq_true rfl)⟩ dX2_begin_26) hS rfl (fun locs hS => ?_)
        refine lv_goto (tgt := 34) S.1 S.2.1 dX2_begin_29 (by decide) ?_
        refine g_iast S hK hP hD hS (hB0 1 _ rfl) (by first | assumption | exact vin_d (by decide) | exact vp_in_nI (by omega) (by decide) | decide) dX2_begin_34 (fun w7 H locs hw hP hD hS => ?_)
        have hF := Same.set hF 1 hw (by decide)
        have hB0 : Blk w7 k (cFleet D α k (upd (L_X2_begin_2 boatO fBoats nP n) (nI n).toNatClampNeg (f_X7_firstBoatOf fBoats (nI n))) seaO faultO daysO backB sailB) := hB0.set 1 hw (Nat.le_of_ble_eq_true rfl) rfl
        refine lv_iinc (v := (nI (n + 1))) (lv' := [(2, .int (nI (n + 1))), (0, .ref (α (k))), (1, .ref (α (k2)))]) S.1 S.2.1 dX2_begin_35 hl (k := 0) rfl ((nI_succ n).symm) (by decide) rfl (fun ls hl => ?_)
        refine lv_goto (tgt := 2) S.1 S.2.1 dX2_begin_38 (by decide) ?_
        have hL : (L_X2_begin_2 boatO fBoats nP (n + 1)) = (upd (L_X2_begin_2 boatO fBoats nP n) (nI n).toNatClampNeg (f_X7_firstBoatOf fBoats (nI n))) := (iter_s _ _ _).trans (if_neg c3)
        refine ih (n + 1) (by omega) _ _ _ _ hP hD hS hF ?_ ?_
        · rw [hL]; exact hB0
        · exact lv_sub hl [0, 1, 2] rfl
  have hL0 : (L_X2_begin_2 boatO fBoats nP 0) = boatO := iter_z _ _
  exact lp2 20 0 (Nat.zero_add _) _ _ _ _ hP hD hS hF (by rw [hL0]; exact hB0) (lv_sub hl [0, 1, 2] rfl)
