def f_X2_boatOf (boatO : Nat → Int32) (p : Int32) : Int32 := (f_X11_cell 20 boatO p (-2))
set_option maxHeartbeats 4000000 in
set_option maxRecDepth 100000 in
theorem c_X2_boatOf (l : Launch) (D : va_G) (A : Nat → Prop) (w : va_W) (α : Nat → Nat) (k : Nat) (boatO : Nat → Int32) (seaO : Nat → Int32) (faultO : Nat → Int32) (daysO : Nat → Int32) (backB : Nat → Int32) (sailB : Nat → Int32) (p : Int32) (hB0 : Blk w k (cFleet D α k boatO seaO faultO daysO backB sailB)) : Met l yX2_boatOf (ws_ yX2_boatOf cX2_boatOf 2 (some .int)) ({ frames := 1, cells := 0, slots := 0, locals := 22 }) (gPre D A [.ref (α (k)), .int p] w) (gR (some (.int (f_X2_boatOf boatO p)))) 0 0 A := by
  refine g_met [(0, .ref (α (k))), (1, .int p)] (plainFor_of_name (by decide)) (Nat.le_of_ble_eq_true rfl) rfl (fun pg en s mi ar below me co ls S hK hP hD hE hS hr hlk hnm hl => ?_)
  refine lv_aload_n S.1 S.2.1 dX2_boatOf_0 rfl (lv_at hl 0 rfl) ?_
  refine g_get (v := .ref (α (k + 1))) S hK hP (hB0 0 _ rfl) rfl inX2 0 (by decide) qw119 rfl dX2_boatOf_1 ?_
  refine lv_iload_n S.1 S.2.1 dX2_boatOf_4 rfl (lv_at hl 1 rfl) ?_
  refine lv_bipush (v := (-2)) S.1 S.2.1 dX2_boatOf_5 (by decide) ?_
  refine g_aftR0 (st1 := [.int (f_X11_cell 20 boatO p (-2))]) (g_SN (As := [.ref (α (k + 1)), .int p, .int (-2)]) (rest := []) S ms_X11_cell qn_RX2_48 (c_X11_cell l D A w α (k + 1) 20 boatO p (-2) (hB0 1 _ rfl) (by first | assumption | exact vin_d (by decide) | exact vp_in_nI (by omega) (by decide) | decide | omega)) hK hP hD hE hS rfl rfl hl.1 (Nat.le_of_ble_eq_true rfl) rfl rfl ⟨(Nat.le_of_ble_eq_true rfl), (Nat.le_of_ble_eq_true rfl)⟩ ⟨(Nat.le_of_ble_eq_true rfl), (Nat.le_of_ble_eq_true rfl)⟩ dX2_boatOf_7) hS rfl (fun locs hS => ?_)
  have hf : (f_X2_boatOf boatO p) = (f_X11_cell 20 boatO p (-2)) := rfl
  exact g_iretR S hr hlk hS (by rw [hf] <;> rfl) dX2_boatOf_10
def f_X2_isAtSea (seaO : Nat → Int32) (p : Int32) : Bool := (if (f_X11_cell 20 seaO p 0) = 0 then false else true)
set_option maxHeartbeats 4000000 in
set_option maxRecDepth 100000 in
theorem c_X2_isAtSea (l : Launch) (D : va_G) (A : Nat → Prop) (w : va_W) (α : Nat → Nat) (k : Nat) (boatO : Nat → Int32) (seaO : Nat → Int32) (faultO : Nat → Int32) (daysO : Nat → Int32) (backB : Nat → Int32) (sailB : Nat → Int32) (p : Int32) (hB0 : Blk w k (cFleet D α k boatO seaO faultO daysO backB sailB)) : Met l yX2_isAtSea (ws_ yX2_isAtSea cX2_isAtSea 2 (some .boolean)) ({ frames := 1, cells := 0, slots := 0, locals := 22 }) (gPre D A [.ref (α (k)), .int p] w) (gR (some (.int (b2i (f_X2_isAtSea seaO p))))) 0 0 A := by
  refine g_met [(0, .ref (α (k))), (1, .int p)] (plainFor_of_name (by decide)) (Nat.le_of_ble_eq_true rfl) rfl (fun pg en s mi ar below me co ls S hK hP hD hE hS hr hlk hnm hl => ?_)
  refine lv_aload_n S.1 S.2.1 dX2_isAtSea_0 rfl (lv_at hl 0 rfl) ?_
  refine g_get (v := .ref (α (k + 2))) S hK hP (hB0 0 _ rfl) rfl inX2 1 (by decide) qw120 rfl dX2_isAtSea_1 ?_
  refine lv_iload_n S.1 S.2.1 dX2_isAtSea_4 rfl (lv_at hl 1 rfl) ?_
  refine lv_iconst (v := 0) S.1 S.2.1 dX2_isAtSea_5 (by decide) ?_
  refine g_aftR0 (st1 := [.int (f_X11_cell 20 seaO p 0)]) (g_SN (As := [.ref (α (k + 2)), .int p, .int 0]) (rest := []) S ms_X11_cell qn_RX2_48 (c_X11_cell l D A w α (k + 2) 20 seaO p 0 (hB0 2 _ rfl) (by first | assumption | exact vin_d (by decide) | exact vp_in_nI (by omega) (by decide) | decide | omega)) hK hP hD hE hS rfl rfl hl.1 (Nat.le_of_ble_eq_true rfl) rfl rfl ⟨(Nat.le_of_ble_eq_true rfl), (Nat.le_of_ble_eq_true rfl)⟩ ⟨(Nat.le_of_ble_eq_true rfl), (Nat.le_of_ble_eq_true rfl)⟩ dX2_isAtSea_6) hS rfl (fun locs hS => ?_)
  refine lv_if_eq (tgt := 16) S.1 S.2.1 dX2_isAtSea_9 (by decide) (fun (c1 : (f_X11_cell 20 seaO p 0) = 0) => ?_) (fun (c1 : ¬ (f_X11_cell 20 seaO p 0) = 0) => ?_)
  · refine lv_iconst (v := 0) S.1 S.2.1 dX2_isAtSea_16 (by decide) ?_
    have hf : (f_X2_isAtSea seaO p) = false := if_pos c1
    exact g_zretR S hr hlk hS rfl (by rw [hf] <;> rfl) dX2_isAtSea_17
  · refine lv_iconst (v := 1) S.1 S.2.1 dX2_isAtSea_12 (by decide) ?_
    refine lv_goto (tgt := 17) S.1 S.2.1 dX2_isAtSea_13 (by decide) ?_
    have hf : (f_X2_isAtSea seaO p) = true := if_neg c1
    exact g_zretR S hr hlk hS rfl (by rw [hf] <;> rfl) dX2_isAtSea_17
def f_X2_faultsOf (faultO : Nat → Int32) (p : Int32) : Int32 := (f_X11_cell 20 faultO p 0)
set_option maxHeartbeats 4000000 in
set_option maxRecDepth 100000 in
theorem c_X2_faultsOf (l : Launch) (D : va_G) (A : Nat → Prop) (w : va_W) (α : Nat → Nat) (k : Nat) (boatO : Nat → Int32) (seaO : Nat → Int32) (faultO : Nat → Int32) (daysO : Nat → Int32) (backB : Nat → Int32) (sailB : Nat → Int32) (p : Int32) (hB0 : Blk w k (cFleet D α k boatO seaO faultO daysO backB sailB)) : Met l yX2_faultsOf (ws_ yX2_faultsOf cX2_faultsOf 2 (some .int)) ({ frames := 1, cells := 0, slots := 0, locals := 22 }) (gPre D A [.ref (α (k)), .int p] w) (gR (some (.int (f_X2_faultsOf faultO p)))) 0 0 A := by
  refine g_met [(0, .ref (α (k))), (1, .int p)] (plainFor_of_name (by decide)) (Nat.le_of_ble_eq_true rfl) rfl (fun pg en s mi ar below me co ls S hK hP hD hE hS hr hlk hnm hl => ?_)
  refine lv_aload_n S.1 S.2.1 dX2_faultsOf_0 rfl (lv_at hl 0 rfl) ?_
  refine g_get (v := .ref (α (k + 3))) S hK hP (hB0 0 _ rfl) rfl inX2 2 (by decide) qw121 rfl dX2_faultsOf_1 ?_
  refine lv_iload_n S.1 S.2.1 dX2_faultsOf_4 rfl (lv_at hl 1 rfl) ?_
  refine lv_iconst (v := 0) S.1 S.2.1 dX2_faultsOf_5 (by decide) ?_
  refine g_aftR0 (st1 := [.int (f_X11_cell 20 faultO p 0)]) (g_SN (As := [.ref (α (k + 3)), .int p, .int 0]) (rest := []) S ms_X11_cell qn_RX2_48 (c_X11_cell l D A w α (k + 3) 20 faultO p 0 (hB0 3 _ rfl) (by first | assumption | exact vin_d (by decide) | exact vp_in_nI (by omega) (by decide) | decide | omega)) hK hP hD hE hS rfl rfl hl.1 (Nat.le_of_ble_eq_true rfl) rfl rfl ⟨(Nat.le_of_ble_eq_true rfl), (Nat.le_of_ble_eq_true rfl)⟩ ⟨(Nat.le_of_ble_eq_true rfl), (Nat.le_of_ble_eq_true rfl)⟩ dX2_faultsOf_6) hS rfl (fun locs hS => ?_)
  have hf : (f_X2_faultsOf faultO p) = (f_X11_cell 20 faultO p 0) := rfl
  exact g_iretR S hr hlk hS (by rw [hf] <;> rfl) dX2_faultsOf_9
def f_X2_daysAtSeaOf (daysO : Nat → Int32) (p : Int32) : Int32 := (f_X11_cell 20 daysO p 0)
set_option maxHeartbeats 4000000 in
set_option maxRecDepth 100000 in
theorem c_X2_daysAtSeaOf (l : Launch) (D : va_G) (A : Nat → Prop) (w : va_W) (α : Nat → Nat) (k : Nat) (boatO : Nat → Int32) (seaO : Nat → Int32) (faultO : Nat → Int32) (daysO : Nat → Int32) (backB : Nat → Int32) (sailB : Nat → Int32) (p : Int32) (hB0 : Blk w k (cFleet D α k boatO seaO faultO daysO backB sailB)) : Met l yX2_daysAtSeaOf (ws_ yX2_daysAtSeaOf cX2_daysAtSeaOf 2 (some .int)) ({ frames := 1, cells := 0, slots := 0, locals := 22 }) (gPre D A [.ref (α (k)), .int p] w) (gR (some (.int (f_X2_daysAtSeaOf daysO p)))) 0 0 A := by
  refine g_met [(0, .ref (α (k))), (1, .int p)] (plainFor_of_name (by decide)) (Nat.le_of_ble_eq_true rfl) rfl (fun pg en s mi ar below me co ls S hK hP hD hE hS hr hlk hnm hl => ?_)
  refine lv_aload_n S.1 S.2.1 dX2_daysAtSeaOf_0 rfl (lv_at hl 0 rfl) ?_
  refine g_get (v := .ref (α (k + 4))) S hK hP (hB0 0 _ rfl) rfl inX2 3 (by decide) qw122 rfl dX2_daysAtSeaOf_1 ?_
  refine lv_iload_n S.1 S.2.1 dX2_daysAtSeaOf_4 rfl (lv_at hl 1 rfl) ?_
  refine lv_iconst (v := 0) S.1 S.2.1 dX2_daysAtSeaOf_5 (by decide) ?_
  refine g_aftR0 (st1 := [.int (f_X11_cell 20 daysO p 0)]) (g_SN (As := [.ref (α (k + 4)), .int p, .int 0]) (rest := []) S ms_X11_cell qn_RX2_48 (c_X11_cell l D A w α (k + 4) 20 daysO p 0 (hB0 4 _ rfl) (by first | assumption | exact vin_d (by decide) | exact vp_in_nI (by omega) (by decide) | decide | omega)) hK hP hD hE hS rfl rfl hl.1 (Nat.le_of_ble_eq_true rfl) rfl rfl ⟨(Nat.le_of_ble_eq_true rfl), (Nat.le_of_ble_eq_true rfl)⟩ ⟨(Nat.le_of_ble_eq_true rfl), (Nat.le_of_ble_eq_true rfl)⟩ dX2_daysAtSeaOf_6) hS rfl (fun locs hS => ?_)
  have hf : (f_X2_daysAtSeaOf daysO p) = (f_X11_cell 20 daysO p 0) := rfl
  exact g_iretR S hr hlk hS (by rw [hf] <;> rfl) dX2_daysAtSeaOf_9
def f_X2_isOut (backB : Nat → Int32) (b : Int32) : Bool := (if (f_X11_cell 6 backB b 0) = 0 then false else true)
set_option maxHeartbeats 4000000 in
set_option maxRecDepth 100000 in
theorem c_X2_isOut (l : Launch) (D : va_G) (A : Nat → Prop) (w : va_W) (α : Nat → Nat) (k : Nat) (boatO : Nat → Int32) (seaO : Nat → Int32) (faultO : Nat → Int32) (daysO : Nat → Int32) (backB : Nat → Int32) (sailB : Nat → Int32) (b : Int32) (hB0 : Blk w k (cFleet D α k boatO seaO faultO daysO backB sailB)) : Met l yX2_isOut (ws_ yX2_isOut cX2_isOut 2 (some .boolean)) ({ frames := 1, cells := 0, slots := 0, locals := 22 }) (gPre D A [.ref (α (k)), .int b] w) (gR (some (.int (b2i (f_X2_isOut backB b))))) 0 0 A := by
  refine g_met [(0, .ref (α (k))), (1, .int b)] (plainFor_of_name (by decide)) (Nat.le_of_ble_eq_true rfl) rfl (fun pg en s mi ar below me co ls S hK hP hD hE hS hr hlk hnm hl => ?_)
  refine lv_aload_n S.1 S.2.1 dX2_isOut_0 rfl (lv_at hl 0 rfl) ?_
  refine g_get (v := .ref (α (k + 5))) S hK hP (hB0 0 _ rfl) rfl inX2 4 (by decide) qw123 rfl dX2_isOut_1 ?_
  refine lv_iload_n S.1 S.2.1 dX2_isOut_4 rfl (lv_at hl 1 rfl) ?_
  refine lv_iconst (v := 0) S.1 S.2.1 dX2_isOut_5 (by decide) ?_
  refine g_aftR0 (st1 := [.int (f_X11_cell 6 backB b 0)]) (g_SN (As := [.ref (α (k + 5)), .int b, .int 0]) (rest := []) S ms_X11_cell qn_RX2_48 (c_X11_cell l D A w α (k + 5) 6 backB b 0 (hB0 5 _ rfl) (by first | assumption | exact vin_d (by decide) | exact vp_in_nI (by omega) (by decide) | decide | omega)) hK hP hD hE hS rfl rfl hl.1 (Nat.le_of_ble_eq_true rfl) rfl rfl ⟨(Nat.le_of_ble_eq_true rfl), (Nat.le_of_ble_eq_true rfl)⟩ ⟨(Nat.le_of_ble_eq_true rfl), (Nat.le_of_ble_eq_true rfl)⟩ dX2_isOut_6) hS rfl (fun locs hS => ?_)
  refine lv_if_eq (tgt := 16) S.1 S.2.1 dX2_isOut_9 (by decide) (fun (c1 : (f_X11_cell 6 backB b 0) = 0) => ?_) (fun (c1 : ¬ (f_X11_cell 6 backB b 0) = 0) => ?_)
  · refine lv_iconst (v := 0) S.1 S.2.1 dX2_isOut_16 (by decide) ?_
    have hf : (f_X2_isOut backB b) = false := if_pos c1
    exact g_zretR S hr hlk hS rfl (by rw [hf] <;> rfl) dX2_isOut_17
  · refine lv_iconst (v := 1) S.1 S.2.1 dX2_isOut_12 (by decide) ?_
    refine lv_goto (tgt := 17) S.1 S.2.1 dX2_isOut_13 (by decide) ?_
    have hf : (f_X2_isOut backB b) = true := if_neg c1
    exact g_zretR S hr hlk hS rfl (by rw [hf] <;> rfl) dX2_isOut_17
def f_X2_backOf (backB : Nat → Int32) (b : Int32) : Int32 := (f_X11_cell 6 backB b 0)
set_option maxHeartbeats 4000000 in
set_option maxRecDepth 100000 in
theorem c_X2_backOf (l : Launch) (D : va_G) (A : Nat → Prop) (w : va_W) (α : Nat → Nat) (k : Nat) (boatO : Nat → Int32) (seaO : Nat → Int32) (faultO : Nat → Int32) (daysO : Nat → Int32) (backB : Nat → Int32) (sailB : Nat → Int32) (b : Int32) (hB0 : Blk w k (cFleet D α k boatO seaO faultO daysO backB sailB)) : Met l yX2_backOf (ws_ yX2_backOf cX2_backOf 2 (some .int)) ({ frames := 1, cells := 0, slots := 0, locals := 22 }) (gPre D A [.ref (α (k)), .int b] w) (gR (some (.int (f_X2_backOf backB b)))) 0 0 A := by
  refine g_met [(0, .ref (α (k))), (1, .int b)] (plainFor_of_name (by decide)) (Nat.le_of_ble_eq_true rfl) rfl (fun pg en s mi ar below me co ls S hK hP hD hE hS hr hlk hnm hl => ?_)
  refine lv_aload_n S.1 S.2.1 dX2_backOf_0 rfl (lv_at hl 0 rfl) ?_
  refine g_get (v := .ref (α (k + 5))) S hK hP (hB0 0 _ rfl) rfl inX2 4 (by decide) qw123 rfl dX2_backOf_1 ?_
  refine lv_iload_n S.1 S.2.1 dX2_backOf_4 rfl (lv_at hl 1 rfl) ?_
  refine lv_iconst (v := 0) S.1 S.2.1 dX2_backOf_5 (by decide) ?_
  refine g_aftR0 (st1 := [.int (f_X11_cell 6 backB b 0)]) (g_SN (As := [.ref (α (k + 5)), .int b, .int 0]) (rest := []) S ms_X11_cell qn_RX2_48 (c_X11_cell l D A w α (k + 5) 6 backB b 0 (hB0 5 _ rfl) (by first | assumption | exact vin_d (by decide) | exact vp_in_nI (by omega) (by decide) | decide | omega)) hK hP hD hE hS rfl rfl hl.1 (Nat.le_of_ble_eq_true rfl) rfl rfl ⟨(Nat.le_of_ble_eq_true rfl), (Nat.le_of_ble_eq_true rfl)⟩ ⟨(Nat.le_of_ble_eq_true rfl), (Nat.le_of_ble_eq_true rfl)⟩ dX2_backOf_6) hS rfl (fun locs hS => ?_)
  have hf : (f_X2_backOf backB b) = (f_X11_cell 6 backB b 0) := rfl
  exact g_iretR S hr hlk hS (by rw [hf] <;> rfl) dX2_backOf_9
def f_X2_sailedOf (sailB : Nat → Int32) (b : Int32) : Int32 := (f_X11_cell 6 sailB b 0)
set_option maxHeartbeats 4000000 in
set_option maxRecDepth 100000 in
theorem c_X2_sailedOf (l : Launch) (D : va_G) (A : Nat → Prop) (w : va_W) (α : Nat → Nat) (k : Nat) (boatO : Nat → Int32) (seaO : Nat → Int32) (faultO : Nat → Int32) (daysO : Nat → Int32) (backB : Nat → Int32) (sailB : Nat → Int32) (b : Int32) (hB0 : Blk w k (cFleet D α k boatO seaO faultO daysO backB sailB)) : Met l yX2_sailedOf (ws_ yX2_sailedOf cX2_sailedOf 2 (some .int)) ({ frames := 1, cells := 0, slots := 0, locals := 22 }) (gPre D A [.ref (α (k)), .int b] w) (gR (some (.int (f_X2_sailedOf sailB b)))) 0 0 A := by
  refine g_met [(0, .ref (α (k))), (1, .int b)] (plainFor_of_name (by decide)) (Nat.le_of_ble_eq_true rfl) rfl (fun pg en s mi ar below me co ls S hK hP hD hE hS hr hlk hnm hl => ?_)
  refine lv_aload_n S.1 S.2.1 dX2_sailedOf_0 rfl (lv_at hl 0 rfl) ?_
  refine g_get (v := .ref (α (k + 6))) S hK hP (hB0 0 _ rfl) rfl inX2 5 (by decide) qw124 rfl dX2_sailedOf_1 ?_
  refine lv_iload_n S.1 S.2.1 dX2_sailedOf_4 rfl (lv_at hl 1 rfl) ?_
  refine lv_iconst (v := 0) S.1 S.2.1 dX2_sailedOf_5 (by decide) ?_
  refine g_aftR0 (st1 := [.int (f_X11_cell 6 sailB b 0)]) (g_SN (As := [.ref (α (k + 6)), .int b, .int 0]) (rest := []) S ms_X11_cell qn_RX2_48 (c_X11_cell l D A w α (k + 6) 6 sailB b 0 (hB0 6 _ rfl) (by first | assumption | exact vin_d (by decide) | exact vp_in_nI (by omega) (by decide) | decide | omega)) hK hP hD hE hS rfl rfl hl.1 (Nat.le_of_ble_eq_true rfl) rfl rfl ⟨(Nat.le_of_ble_eq_true rfl), (Nat.le_of_ble_eq_true rfl)⟩ ⟨(Nat.le_of_ble_eq_true rfl), (Nat.le_of_ble_eq_true rfl)⟩ dX2_sailedOf_6) hS rfl (fun locs hS => ?_)
  have hf : (f_X2_sailedOf sailB b) = (f_X11_cell 6 sailB b 0) := rfl
  exact g_iretR S hr hlk hS (by rw [hf] <;> rfl) dX2_sailedOf_9
def f_X2_assign (boatO : Nat → Int32) (p : Int32) (b : Int32) : (Nat → Int32) := (f_X11_setCell 20 boatO p b)
set_option maxHeartbeats 4000000 in
set_option maxRecDepth 100000 in
theorem c_X2_assign (l : Launch) (D : va_G) (A : Nat → Prop) (w : va_W) (α : Nat → Nat) (k : Nat) (boatO : Nat → Int32) (seaO : Nat → Int32) (faultO : Nat → Int32) (daysO : Nat → Int32) (backB : Nat → Int32) (sailB : Nat → Int32) (p : Int32) (b : Int32) (hB0 : Blk w k (cFleet D α k boatO seaO faultO daysO backB sailB)) : Met l yX2_assign (ws_ yX2_assign cX2_assign 3 none) ({ frames := 1, cells := 0, slots := 0, locals := 22 }) (gPre D A [.ref (α (k)), .int p, .int b] w) (gQ D A none (fun w1 => Blk w1 k (cFleet D α k (f_X2_assign boatO p b) seaO faultO daysO backB sailB) ∧ Same w w1 k 7)) 0 0 A := by
  refine g_met [(0, .ref (α (k))), (1, .int p), (2, .int b)] (plainFor_of_name (by decide)) (Nat.le_of_ble_eq_true rfl) rfl (fun pg en s mi ar below me co ls S hK hP hD hE hS hr hlk hnm hl => ?_)
  have hF : Same w w k 7 := Same.rf
  refine lv_aload_n S.1 S.2.1 dX2_assign_0 rfl (lv_at hl 0 rfl) ?_
  refine g_get (v := .ref (α (k + 1))) S hK hP (hB0 0 _ rfl) rfl inX2 0 (by decide) qw119 rfl dX2_assign_1 ?_
  refine lv_iload_n S.1 S.2.1 dX2_assign_4 rfl (lv_at hl 1 rfl) ?_
  refine lv_iload_n S.1 S.2.1 dX2_assign_5 rfl (lv_at hl 2 rfl) ?_
  refine g_aft0 (st1 := []) (g_SN (As := [.ref (α (k + 1)), .int p, .int b]) (rest := []) S ms_X11_setCell qn_RX2_52 (c_X11_setCell l D A w α (k + 1) 20 boatO p b (hB0 1 _ rfl) (by first | assumption | exact vin_d (by decide) | exact vp_in_nI (by omega) (by decide) | decide | omega)) hK hP hD hE hS rfl rfl hl.1 (Nat.le_of_ble_eq_true rfl) rfl rfl ⟨(Nat.le_of_ble_eq_true rfl), (Nat.le_of_ble_eq_true rfl)⟩ ⟨(Nat.le_of_ble_eq_true rfl), (Nat.le_of_ble_eq_true rfl)⟩ dX2_assign_6) hS rfl (fun w1 H locs hQ hP hD hS => ?_)
  have hw := hQ
  have hF := Same.set hF 1 hw (by decide)
  have hB0 : Blk w1 k (cFleet D α k (f_X11_setCell 20 boatO p b) seaO faultO daysO backB sailB) := hB0.set 1 hw (Nat.le_of_ble_eq_true rfl) rfl
  have hf : (f_X2_assign boatO p b) = (f_X11_setCell 20 boatO p b) := rfl
  exact g_vret S hr hlk hP hD hS (rfl) (⟨by rw [hf]; exact hB0, hF⟩) dX2_assign_9
def f_X2_addFault (faultO : Nat → Int32) (p : Int32) : (Nat → Int32) := (f_X11_setCell 20 faultO p ((f_X2_faultsOf faultO p) + 1))
set_option maxHeartbeats 4000000 in
set_option maxRecDepth 100000 in
theorem c_X2_addFault (l : Launch) (D : va_G) (A : Nat → Prop) (w : va_W) (α : Nat → Nat) (k : Nat) (boatO : Nat → Int32) (seaO : Nat → Int32) (faultO : Nat → Int32) (daysO : Nat → Int32) (backB : Nat → Int32) (sailB : Nat → Int32) (p : Int32) (hB0 : Blk w k (cFleet D α k boatO seaO faultO daysO backB sailB)) : Met l yX2_addFault (ws_ yX2_addFault cX2_addFault 2 none) ({ frames := 2, cells := 0, slots := 0, locals := 43 }) (gPre D A [.ref (α (k)), .int p] w) (gQ D A none (fun w1 => Blk w1 k (cFleet D α k boatO seaO (f_X2_addFault faultO p) daysO backB sailB) ∧ Same w w1 k 7)) 0 0 A := by
  refine g_met [(0, .ref (α (k))), (1, .int p)] (plainFor_of_name (by decide)) (Nat.le_of_ble_eq_true rfl) rfl (fun pg en s mi ar below me co ls S hK hP hD hE hS hr hlk hnm hl => ?_)
  have hF : Same w w k 7 := Same.rf
  refine lv_aload_n S.1 S.2.1 dX2_addFault_0 rfl (lv_at hl 0 rfl) ?_
  refine g_get (v := .ref (α (k + 3))) S hK hP (hB0 0 _ rfl) rfl inX2 2 (by decide) qw121 rfl dX2_addFault_1 ?_
  refine lv_iload_n S.1 S.2.1 dX2_addFault_4 rfl (lv_at hl 1 rfl) ?_
  refine lv_aload_n S.1 S.2.1 dX2_addFault_5 rfl (lv_at hl 0 rfl) ?_
  refine lv_iload_n S.1 S.2.1 dX2_addFault_6 rfl (lv_at hl 1 rfl) ?_
  refine g_aftR0 (st1 := [.int (f_X2_faultsOf faultO p), .int p, .ref (α (k + 3))]) (g_V (As := [.int p]) (rest := [.int p, .ref (α (k + 3))]) S mi_X2_faultsOf qw1233 (c_X2_faultsOf l D A w α (k) boatO seaO faultO daysO backB sailB p hB0) hK hP hD hE hS (hB0 0 _ rfl) rfl rfl rfl hl.1 (Nat.le_of_ble_eq_true rfl) rfl rfl ⟨(Nat.le_of_ble_eq_true rfl), (Nat.le_of_ble_eq_true rfl)⟩ ⟨(Nat.le_of_ble_eq_true rfl), (Nat.le_of_ble_eq_true rfl)⟩ dX2_addFault_7) hS rfl (fun locs hS => ?_)
  refine lv_iconst (v := 1) S.1 S.2.1 dX2_addFault_10 (by decide) ?_
  refine lv_iadd S.1 S.2.1 dX2_addFault_11 ?_
  refine g_aft0 (st1 := []) (g_SN (As := [.ref (α (k + 3)), .int p, .int ((f_X2_faultsOf faultO p) + 1)]) (rest := []) S ms_X11_setCell qn_RX2_52 (c_X11_setCell l D A w α (k + 3) 20 faultO p ((f_X2_faultsOf faultO p) + 1) (hB0 3 _ rfl) (by first | assumption | exact vin_d (by decide) | exact vp_in_nI (by omega) (by decide) | decide | omega)) hK hP hD hE hS rfl rfl hl.1 (Nat.le_of_ble_eq_true rfl) rfl rfl ⟨(Nat.le_of_ble_eq_true rfl), (Nat.le_of_ble_eq_true rfl)⟩ ⟨(Nat.le_of_ble_eq_true rfl), (Nat.le_of_ble_eq_true rfl)⟩ dX2_addFault_12) hS rfl (fun w1 H locs hQ hP hD hS => ?_)
  have hw := hQ
  have hF := Same.set hF 3 hw (by decide)
  have hB0 : Blk w1 k (cFleet D α k boatO seaO (f_X11_setCell 20 faultO p ((f_X2_faultsOf faultO p) + 1)) daysO backB sailB) := hB0.set 3 hw (Nat.le_of_ble_eq_true rfl) rfl
  have hf : (f_X2_addFault faultO p) = (f_X11_setCell 20 faultO p ((f_X2_faultsOf faultO p) + 1)) := rfl
  exact g_vret S hr hlk hP hD hS (rfl) (⟨by rw [hf]; exact hB0, hF⟩) dX2_addFault_15
def f_X2_moveBack (backB : Nat → Int32) (b : Int32) (d : Int32) : (Nat → Int32) := (f_X11_setCell 6 backB b ((f_X2_backOf backB b) + d))
set_option maxHeartbeats 4000000 in
set_option maxRecDepth 100000 in
theorem c_X2_moveBack (l : Launch) (D : va_G) (A : Nat → Prop) (w : va_W) (α : Nat → Nat) (k : Nat) (boatO : Nat → Int32) (seaO : Nat → Int32) (faultO : Nat → Int32) (daysO : Nat → Int32) (backB : Nat → Int32) (sailB : Nat → Int32) (b : Int32) (d : Int32) (hB0 : Blk w k (cFleet D α k boatO seaO faultO daysO backB sailB)) : Met l yX2_moveBack (ws_ yX2_moveBack cX2_moveBack 3 none) ({ frames := 2, cells := 0, slots := 0, locals := 43 }) (gPre D A [.ref (α (k)), .int b, .int d] w) (gQ D A none (fun w1 => Blk w1 k (cFleet D α k boatO seaO faultO daysO (f_X2_moveBack backB b d) sailB) ∧ Same w w1 k 7)) 0 0 A := by
  refine g_met [(0, .ref (α (k))), (1, .int b), (2, .int d)] (plainFor_of_name (by decide)) (Nat.le_of_ble_eq_true rfl) rfl (fun pg en s mi ar below me co ls S hK hP hD hE hS hr hlk hnm hl => ?_)
  have hF : Same w w k 7 := Same.rf
  refine lv_aload_n S.1 S.2.1 dX2_moveBack_0 rfl (lv_at hl 0 rfl) ?_
  refine g_get (v := .ref (α (k + 5))) S hK hP (hB0 0 _ rfl) rfl inX2 4 (by decide) qw123 rfl dX2_moveBack_1 ?_
  refine lv_iload_n S.1 S.2.1 dX2_moveBack_4 rfl (lv_at hl 1 rfl) ?_
  refine lv_aload_n S.1 S.2.1 dX2_moveBack_5 rfl (lv_at hl 0 rfl) ?_
  refine lv_iload_n S.1 S.2.1 dX2_moveBack_6 rfl (lv_at hl 1 rfl) ?_
  refine g_aftR0 (st1 := [.int (f_X2_backOf backB b), .int b, .ref (α (k + 5))]) (g_V (As := [.int b]) (rest := [.int b, .ref (α (k + 5))]) S mi_X2_backOf qw1129 (c_X2_backOf l D A w α (k) boatO seaO faultO daysO backB sailB b hB0) hK hP hD hE hS (hB0 0 _ rfl) rfl rfl rfl hl.1 (Nat.le_of_ble_eq_true rfl) rfl rfl ⟨(Nat.le_of_ble_eq_true rfl), (Nat.le_of_ble_eq_true rfl)⟩ ⟨(Nat.le_of_ble_eq_true rfl), (Nat.le_of_ble_eq_true rfl)⟩ dX2_moveBack_7) hS rfl (fun locs hS => ?_)
  refine lv_iload_n S.1 S.2.1 dX2_moveBack_10 rfl (lv_at hl 2 rfl) ?_
  refine lv_iadd S.1 S.2.1 dX2_moveBack_11 ?_
  refine g_aft0 (st1 := []) (g_SN (As := [.ref (α (k + 5)), .int b, .int ((f_X2_backOf backB b) + d)]) (rest := []) S ms_X11_setCell qn_RX2_52 (c_X11_setCell l D A w α (k + 5) 6 backB b ((f_X2_backOf backB b) + d) (hB0 5 _ rfl) (by first | assumption | exact vin_d (by decide) | exact vp_in_nI (by omega) (by decide) | decide | omega)) hK hP hD hE hS rfl rfl hl.1 (Nat.le_of_ble_eq_true rfl) rfl rfl ⟨(Nat.le_of_ble_eq_true rfl), (Nat.le_of_ble_eq_true rfl)⟩ ⟨(Nat.le_of_ble_eq_true rfl), (Nat.le_of_ble_eq_true rfl)⟩ dX2_moveBack_12) hS rfl (fun w1 H locs hQ hP hD hS => ?_)
  have hw := hQ
  have hF := Same.set hF 5 hw (by decide)
  have hB0 : Blk w1 k (cFleet D α k boatO seaO faultO daysO (f_X11_setCell 6 backB b ((f_X2_backOf backB b) + d)) sailB) := hB0.set 5 hw (Nat.le_of_ble_eq_true rfl) rfl
  have hf : (f_X2_moveBack backB b d) = (f_X11_setCell 6 backB b ((f_X2_backOf backB b) + d)) := rfl
  exact g_vret S hr hlk hP hD hS (rfl) (⟨by rw [hf]; exact hB0, hF⟩) dX2_moveBack_15
def L_X2_aboard_4 (boatO : Nat → Int32) (seaO : Nat → Int32) (b : Int32) : Nat → Int32 := iter_ (fun n sn => (if (f_X2_boatOf boatO (nI n)) = b then (bif (f_X2_isAtSea seaO (nI n)) then (sn + 1) else sn) else sn)) 0
def f_X2_aboard (boatO : Nat → Int32) (seaO : Nat → Int32) (b : Int32) : Int32 := (L_X2_aboard_4 boatO seaO b 20)
set_option maxHeartbeats 4000000 in
set_option maxRecDepth 100000 in
theorem c_X2_aboard (l : Launch) (D : va_G) (A : Nat → Prop) (w : va_W) (α : Nat → Nat) (k : Nat) (boatO : Nat → Int32) (seaO : Nat → Int32) (faultO : Nat → Int32) (daysO : Nat → Int32) (backB : Nat → Int32) (sailB : Nat → Int32) (b : Int32) (hB0 : Blk w k (cFleet D α k boatO seaO faultO daysO backB sailB)) : Met l yX2_aboard (ws_ yX2_aboard cX2_aboard 4 (some .int)) ({ frames := 2, cells := 0, slots := 0, locals := 43 }) (gPre D A [.ref (α (k)), .int b] w) (gR (some (.int (f_X2_aboard boatO seaO b)))) 0 0 A := by
  refine g_met [(0, .ref (α (k))), (1, .int b)] (plainFor_of_name (by decide)) (Nat.le_of_ble_eq_true rfl) rfl (fun pg en s mi ar below me co ls S hK hP hD hE hS hr hlk hnm hl => ?_)
  refine lv_iconst (v := 0) S.1 S.2.1 dX2_aboard_0 (by decide) ?_
  refine lv_istore_n (lv' := [(2, .int 0), (0, .ref (α (k))), (1, .int b)]) S.1 S.2.1 dX2_aboard_1 rfl hl (by decide) rfl (fun ls hl => ?_)
  refine lv_iconst (v := 0) S.1 S.2.1 dX2_aboard_2 (by decide) ?_
  refine lv_istore_n (lv' := [(3, .int 0), (2, .int 0), (0, .ref (α (k))), (1, .int b)]) S.1 S.2.1 dX2_aboard_3 rfl hl (by decide) rfl (fun ls hl => ?_)
  have lp4 : ∀ (j n : Nat), n + j = 20 → ∀ (locs : List Loc) (ls : Array Slot), va_S A s.heap s.heap locs → lv_has ls 4 [(3, .int (nI n)), (2, .int (L_X2_aboard_4 boatO seaO b n)), (0, .ref (α (k))), (1, .int b)] → W pg l en ({ frames := 2, cells := 0, slots := 0, locals := 43 } : Room) s mi ar below me co s.heap locs 0 0 (MQ below (gR (some (.int (f_X2_aboard boatO seaO b)))) ar s 0 0 A) (F0 mi 4 ls []) := by
    intro j
    induction j with
    | zero =>
      intro n hn locs ls hS hl
      have hn : 20 = n := hn.symm
      subst hn
      refine lv_iload_n S.1 S.2.1 dX2_aboard_4 rfl (lv_at hl 0 rfl) ?_
      refine lv_bipush (v := 20) S.1 S.2.1 dX2_aboard_5 (by decide) ?_
      refine lv_icmp_ge (tgt := 36) S.1 S.2.1 dX2_aboard_7 (by decide) (fun (c1 : 20 ≤ (nI 20)) => ?_) (fun (c1 : ¬ 20 ≤ (nI 20)) => absurd c1 (lp_out (s := 0) (by decide)))
      refine lv_iload_n S.1 S.2.1 dX2_aboard_36 rfl (lv_at hl 1 rfl) ?_
      have hf : (f_X2_aboard boatO seaO b) = (L_X2_aboard_4 boatO seaO b 20) := rfl
      exact g_iretR S hr hlk hS (by rw [hf] <;> rfl) dX2_aboard_37
    | succ j ih =>
      intro n hn locs ls hS hl
      refine lv_iload_n S.1 S.2.1 dX2_aboard_4 rfl (lv_at hl 0 rfl) ?_
      refine lv_bipush (v := 20) S.1 S.2.1 dX2_aboard_5 (by decide) ?_
      refine lv_icmp_ge (tgt := 36) S.1 S.2.1 dX2_aboard_7 (by decide) (fun (c2 : 20 ≤ (nI n)) => absurd c2 (lp_in (s := 0) (by decide) hn)) (fun (c2 : ¬ 20 ≤ (nI n)) => ?_)
      refine lv_aload_n S.1 S.2.1 dX2_aboard_10 rfl (lv_at hl 2 rfl) ?_
      refine lv_iload_n S.1 S.2.1 dX2_aboard_11 rfl (lv_at hl 0 rfl) ?_
      refine g_aftR0 (st1 := [.int (f_X2_boatOf boatO (nI n))]) (g_V (As := [.int (nI n)]) (rest := []) S mi_X2_boatOf qw1116 (c_X2_boatOf l D A w α (k) boatO seaO faultO daysO backB sailB (nI n) hB0) hK hP hD hE hS (hB0 0 _ rfl) rfl rfl rfl hl.1 (Nat.le_of_ble_eq_true rfl) rfl rfl ⟨(Nat.le_of_ble_eq_true rfl), (Nat.le_of_ble_eq_true rfl)⟩ ⟨(Nat.le_of_ble_eq_true rfl), (Nat.le_of_ble_eq_true rfl)⟩ dX2_aboard_12) hS rfl (fun locs hS => ?_)
      refine lv_iload_n S.1 S.2.1 dX2_aboard_15 rfl (lv_at hl 3 rfl) ?_
      refine lv_icmp_ne (tgt := 30) S.1 S.2.1 dX2_aboard_16 (by decide) (fun (c3 : ¬ (f_X2_boatOf boatO (nI n)) = b) => ?_) (fun (c3 : (f_X2_boatOf boatO (nI n)) = b) => ?_)
      · refine lv_iinc (v := (nI (n + 1))) (lv' := [(3, .int (nI (n + 1))), (2, .int (L_X2_aboard_4 boatO seaO b n)), (0, .ref (α (k))), (1, .int b)]) S.1 S.2.1 dX2_aboard_30 hl (k := 0) rfl ((nI_succ n).symm) (by decide) rfl (fun ls hl => ?_)
        refine lv_goto (tgt := 4) S.1 S.2.1 dX2_aboard_33 (by decide) ?_
        have hL : (L_X2_aboard_4 boatO seaO b (n + 1)) = (L_X2_aboard_4 boatO seaO b n) := (iter_s _ _ _).trans (if_neg c3)
        refine ih (n + 1) (by omega) _ _ hS ?_
        rw [hL]; exact lv_sub hl [0, 1, 2, 3] rfl
      · refine lv_aload_n S.1 S.2.1 dX2_aboard_19 rfl (lv_at hl 2 rfl) ?_
        refine lv_iload_n S.1 S.2.1 dX2_aboard_20 rfl (lv_at hl 0 rfl) ?_
        refine g_aftR0 (st1 := [.int (b2i (f_X2_isAtSea seaO (nI n)))]) (g_V (As := [.int (nI n)]) (rest := []) S mi_X2_isAtSea qw754 (c_X2_isAtSea l D A w α (k) boatO seaO faultO daysO backB sailB (nI n) hB0) hK hP hD hE hS (hB0 0 _ rfl) rfl rfl rfl hl.1 (Nat.le_of_ble_eq_true rfl) rfl rfl ⟨(Nat.le_of_ble_eq_true rfl), (Nat.le_of_ble_eq_true rfl)⟩ ⟨(Nat.le_of_ble_eq_true rfl), (Nat.le_of_ble_eq_true rfl)⟩ dX2_aboard_21) hS rfl (fun locs hS => ?_)
        refine g_bifeq (b := (f_X2_isAtSea seaO (nI n))) (tgt := 30) S dX2_aboard_24 (by decide) (fun (c4 : (f_X2_isAtSea seaO (nI n)) = false) => ?_) (fun (c4 : (f_X2_isAtSea seaO (nI n)) = true) => ?_)
        · refine lv_iinc (v := (nI (n + 1))) (lv' := [(3, .int (nI (n + 1))), (2, .int (L_X2_aboard_4 boatO seaO b n)), (0, .ref (α (k))), (1, .int b)]) S.1 S.2.1 dX2_aboard_30 hl (k := 0) rfl ((nI_succ n).symm) (by decide) rfl (fun ls hl => ?_)
          refine lv_goto (tgt := 4) S.1 S.2.1 dX2_aboard_33 (by decide) ?_
          have hL : (L_X2_aboard_4 boatO seaO b (n + 1)) = (L_X2_aboard_4 boatO seaO b n) := (iter_s _ _ _).trans ((if_pos c3).trans (cd_f c4))
          refine ih (n + 1) (by omega) _ _ hS ?_
          rw [hL]; exact lv_sub hl [0, 1, 2, 3] rfl
        · refine lv_iinc (v := ((L_X2_aboard_4 boatO seaO b n) + 1)) (lv' := [(2, .int ((L_X2_aboard_4 boatO seaO b n) + 1)), (3, .int (nI n)), (0, .ref (α (k))), (1, .int b)]) S.1 S.2.1 dX2_aboard_27 hl (k := 1) rfl (rfl) (by decide) rfl (fun ls hl => ?_)
          refine lv_iinc (v := (nI (n + 1))) (lv' := [(3, .int (nI (n + 1))), (2, .int ((L_X2_aboard_4 boatO seaO b n) + 1)), (0, .ref (α (k))), (1, .int b)]) S.1 S.2.1 dX2_aboard_30 hl (k := 1) rfl ((nI_succ n).symm) (by decide) rfl (fun ls hl => ?_)
          refine lv_goto (tgt := 4) S.1 S.2.1 dX2_aboard_33 (by decide) ?_
          have hL : (L_X2_aboard_4 boatO seaO b (n + 1)) = ((L_X2_aboard_4 boatO seaO b n) + 1) := (iter_s _ _ _).trans ((if_pos c3).trans (cd_t c4))
          refine ih (n + 1) (by omega) _ _ hS ?_
          rw [hL]; exact lv_sub hl [0, 1, 2, 3] rfl
  have hL0 : (L_X2_aboard_4 boatO seaO b 0) = 0 := iter_z _ _
  exact lp4 20 0 (Nat.zero_add _) _ _ hS (by rw [hL0]; exact lv_sub hl [0, 1, 2, 3] rfl)
def L_X2_leave_26 (boatO : Nat → Int32) (seaO : Nat → Int32) (b : Int32) : Nat → (Nat → Int32) := iter_ (fun n sn => (if (f_X2_boatOf boatO (nI n)) = b then (f_X11_setCell 20 sn (nI n) 1) else sn)) seaO
def f_X2_leave (boatO : Nat → Int32) (seaO : Nat → Int32) (backB : Nat → Int32) (sailB : Nat → Int32) (b : Int32) (d : Int32) : Int32 × (Nat → Int32) × (Nat → Int32) × (Nat → Int32) := ((f_X2_aboard boatO (L_X2_leave_26 boatO seaO b 20) b), (f_X11_setCell 6 backB b d), (f_X11_setCell 6 sailB b ((f_X2_sailedOf sailB b) + 1)), (L_X2_leave_26 boatO seaO b 20))
set_option maxHeartbeats 4000000 in
set_option maxRecDepth 100000 in
theorem c_X2_leave (l : Launch) (D : va_G) (A : Nat → Prop) (w : va_W) (α : Nat → Nat) (k : Nat) (boatO : Nat → Int32) (seaO : Nat → Int32) (faultO : Nat → Int32) (daysO : Nat → Int32) (backB : Nat → Int32) (sailB : Nat → Int32) (b : Int32) (d : Int32) (hB0 : Blk w k (cFleet D α k boatO seaO faultO daysO backB sailB)) : Met l yX2_leave (ws_ yX2_leave cX2_leave 4 (some .int)) ({ frames := 3, cells := 0, slots := 0, locals := 66 }) (gPre D A [.ref (α (k)), .int b, .int d] w) (gQ D A (some (.int (f_X2_leave boatO seaO backB sailB b d).1)) (fun w1 => Blk w1 k (cFleet D α k boatO ((f_X2_leave boatO seaO backB sailB b d).2.2.2) faultO daysO ((f_X2_leave boatO seaO backB sailB b d).2.1) ((f_X2_leave boatO seaO backB sailB b d).2.2.1)) ∧ Same w w1 k 7)) 0 0 A := by
  refine g_met [(0, .ref (α (k))), (1, .int b), (2, .int d)] (plainFor_of_name (by decide)) (Nat.le_of_ble_eq_true rfl) rfl (fun pg en s mi ar below me co ls S hK hP hD hE hS hr hlk hnm hl => ?_)
  have hF : Same w w k 7 := Same.rf
  refine lv_aload_n S.1 S.2.1 dX2_leave_0 rfl (lv_at hl 0 rfl) ?_
  refine g_get (v := .ref (α (k + 5))) S hK hP (hB0 0 _ rfl) rfl inX2 4 (by decide) qw123 rfl dX2_leave_1 ?_
  refine lv_iload_n S.1 S.2.1 dX2_leave_4 rfl (lv_at hl 1 rfl) ?_
  refine lv_iload_n S.1 S.2.1 dX2_leave_5 rfl (lv_at hl 2 rfl) ?_
  refine g_aft0 (st1 := []) (g_SN (As := [.ref (α (k + 5)), .int b, .int d]) (rest := []) S ms_X11_setCell qn_RX2_52 (c_X11_setCell l D A w α (k + 5) 6 backB b d (hB0 5 _ rfl) (by first | assumption | exact vin_d (by decide) | exact vp_in_nI (by omega) (by decide) | decide | omega)) hK hP hD hE hS rfl rfl hl.1 (Nat.le_of_ble_eq_true rfl) rfl rfl ⟨(Nat.le_of_ble_eq_true rfl), (Nat.le_of_ble_eq_true rfl)⟩ ⟨(Nat.le_of_ble_eq_true rfl), (Nat.le_of_ble_eq_true rfl)⟩ dX2_leave_6) hS rfl (fun w1 H locs hQ hP hD hS => ?_)
  have hw := hQ
  have hF := Same.set hF 5 hw (by decide)
  have hB0 : Blk w1 k (cFleet D α k boatO seaO faultO daysO (f_X11_setCell 6 backB b d) sailB) := hB0.set 5 hw (Nat.le_of_ble_eq_true rfl) rfl
  refine lv_aload_n S.1 S.2.1 dX2_leave_9 rfl (lv_at hl 0 rfl) ?_
  refine g_get (v := .ref (α (k + 6))) S hK hP (hB0 0 _ rfl) rfl inX2 5 (by decide) qw124 rfl dX2_leave_10 ?_
  refine lv_iload_n S.1 S.2.1 dX2_leave_13 rfl (lv_at hl 1 rfl) ?_
  refine lv_aload_n S.1 S.2.1 dX2_leave_14 rfl (lv_at hl 0 rfl) ?_
  refine lv_iload_n S.1 S.2.1 dX2_leave_15 rfl (lv_at hl 1 rfl) ?_
  refine g_aftR0 (st1 := [.int (f_X2_sailedOf sailB b), .int b, .ref (α (k + 6))]) (g_V (As := [.int b]) (rest := [.int b, .ref (α (k + 6))]) S mi_X2_sailedOf qw1112 (c_X2_sailedOf l D A w1 α (k) boatO seaO faultO daysO (f_X11_setCell 6 backB b d) sailB b hB0) hK hP hD hE hS (hB0 0 _ rfl) rfl rfl rfl hl.1 (Nat.le_of_ble_eq_true rfl) rfl rfl ⟨(Nat.le_of_ble_eq_true rfl), (Nat.le_of_ble_eq_true rfl)⟩ ⟨(Nat.le_of_ble_eq_true rfl), (Nat.le_of_ble_eq_true rfl)⟩ dX2_leave_16) hS rfl (fun locs hS => ?_)
  refine lv_iconst (v := 1) S.1 S.2.1 dX2_leave_19 (by decide) ?_
  refine lv_iadd S.1 S.2.1 dX2_leave_20 ?_
  refine g_aft0 (st1 := []) (g_SN (As := [.ref (α (k + 6)), .int b, .int ((f_X2_sailedOf sailB b) + 1)]) (rest := []) S ms_X11_setCell qn_RX2_52 (c_X11_setCell l D A w1 α (k + 6) 6 sailB b ((f_X2_sailedOf sailB b) + 1) (hB0 6 _ rfl) (by first | assumption | exact vin_d (by decide) | exact vp_in_nI (by omega) (by decide) | decide | omega)) hK hP hD hE hS rfl rfl hl.1 (Nat.le_of_ble_eq_true rfl) rfl rfl ⟨(Nat.le_of_ble_eq_true rfl), (Nat.le_of_ble_eq_true rfl)⟩ ⟨(Nat.le_of_ble_eq_true rfl), (Nat.le_of_ble_eq_true rfl)⟩ dX2_leave_21) hS rfl (fun w2 H locs hQ hP hD hS => ?_)
  have hw := hQ
  have hF := Same.set hF 6 hw (by decide)
  have hB0 : Blk w2 k (cFleet D α k boatO seaO faultO daysO (f_X11_setCell 6 backB b d) (f_X11_setCell 6 sailB b ((f_X2_sailedOf sailB b) + 1))) := hB0.set 6 hw (Nat.le_of_ble_eq_true rfl) rfl
  refine lv_iconst (v := 0) S.1 S.2.1 dX2_leave_24 (by decide) ?_
  refine lv_istore_n (lv' := [(3, .int 0), (0, .ref (α (k))), (1, .int b), (2, .int d)]) S.1 S.2.1 dX2_leave_25 rfl hl (by decide) rfl (fun ls hl => ?_)
  have lp26 : ∀ (j n : Nat), n + j = 20 → ∀ (wl : va_W) (H : Heap) (locs : List Loc) (ls : Array Slot), va_P D vwCl wl H → va_D A wl → va_S A s.heap H locs → Same w wl k 7 → Blk wl k (cFleet D α k boatO (L_X2_leave_26 boatO seaO b n) faultO daysO (f_X11_setCell 6 backB b d) (f_X11_setCell 6 sailB b ((f_X2_sailedOf sailB b) + 1))) → lv_has ls 4 [(3, .int (nI n)), (0, .ref (α (k))), (1, .int b), (2, .int d)] → W pg l en ({ frames := 3, cells := 0, slots := 0, locals := 66 } : Room) s mi ar below me co H locs 0 0 (MQ below (gQ D A (some (.int (f_X2_leave boatO seaO backB sailB b d).1)) (fun w1 => Blk w1 k (cFleet D α k boatO ((f_X2_leave boatO seaO backB sailB b d).2.2.2) faultO daysO ((f_X2_leave boatO seaO backB sailB b d).2.1) ((f_X2_leave boatO seaO backB sailB b d).2.2.1)) ∧ Same w w1 k 7)) ar s 0 0 A) (F0 mi 26 ls []) := by
    intro j
    induction j with
    | zero =>
      intro n hn wl H locs ls hP hD hS hF hB0 hl
      have hn : 20 = n := hn.symm
      subst hn
      refine lv_iload_n S.1 S.2.1 dX2_leave_26 rfl (lv_at hl 0 rfl) ?_
      refine lv_bipush (v := 20) S.1 S.2.1 dX2_leave_27 (by decide) ?_
      refine lv_icmp_ge (tgt := 56) S.1 S.2.1 dX2_leave_29 (by decide) (fun (c1 : 20 ≤ (nI 20)) => ?_) (fun (c1 : ¬ 20 ≤ (nI 20)) => absurd c1 (lp_out (s := 0) (by decide)))
      refine lv_aload_n S.1 S.2.1 dX2_leave_56 rfl (lv_at hl 1 rfl) ?_
      refine lv_iload_n S.1 S.2.1 dX2_leave_57 rfl (lv_at hl 2 rfl) ?_
      refine g_aftR0 (st1 := [.int (f_X2_aboard boatO (L_X2_leave_26 boatO seaO b 20) b)]) (g_V (As := [.int b]) (rest := []) S mi_X2_aboard qw1117 (c_X2_aboard l D A wl α (k) boatO (L_X2_leave_26 boatO seaO b 20) faultO daysO (f_X11_setCell 6 backB b d) (f_X11_setCell 6 sailB b ((f_X2_sailedOf sailB b) + 1)) b hB0) hK hP hD hE hS (hB0 0 _ rfl) rfl rfl rfl hl.1 (Nat.le_of_ble_eq_true rfl) rfl rfl ⟨(Nat.le_of_ble_eq_true rfl), (Nat.le_of_ble_eq_true rfl)⟩ ⟨(Nat.le_of_ble_eq_true rfl), (Nat.le_of_ble_eq_true rfl)⟩ dX2_leave_58) hS rfl (fun locs hS => ?_)
      have hf : (f_X2_leave boatO seaO backB sailB b d) = ((f_X2_aboard boatO (L_X2_leave_26 boatO seaO b 20) b), (f_X11_setCell 6 backB b d), (f_X11_setCell 6 sailB b ((f_X2_sailedOf sailB b) + 1)), (L_X2_leave_26 boatO seaO b 20)) := rfl
      exact g_iret S hr hlk hP hD hS (by rw [hf] <;> rfl) (⟨by rw [hf]; exact hB0, hF⟩) dX2_leave_61
    | succ j ih =>
      intro n hn wl H locs ls hP hD hS hF hB0 hl
      refine lv_iload_n S.1 S.2.1 dX2_leave_26 rfl (lv_at hl 0 rfl) ?_
      refine lv_bipush (v := 20) S.1 S.2.1 dX2_leave_27 (by decide) ?_
      refine lv_icmp_ge (tgt := 56) S.1 S.2.1 dX2_leave_29 (by decide) (fun (c2 : 20 ≤ (nI n)) => absurd c2 (lp_in (s := 0) (by decide) hn)) (fun (c2 : ¬ 20 ≤ (nI n)) => ?_)
      refine lv_aload_n S.1 S.2.1 dX2_leave_32 rfl (lv_at hl 1 rfl) ?_
      refine lv_iload_n S.1 S.2.1 dX2_leave_33 rfl (lv_at hl 0 rfl) ?_
      refine g_aftR0 (st1 := [.int (f_X2_boatOf boatO (nI n))]) (g_V (As := [.int (nI n)]) (rest := []) S mi_X2_boatOf qw1116 (c_X2_boatOf l D A wl α (k) boatO (L_X2_leave_26 boatO seaO b n) faultO daysO (f_X11_setCell 6 backB b d) (f_X11_setCell 6 sailB b ((f_X2_sailedOf sailB b) + 1)) (nI n) hB0) hK hP hD hE hS (hB0 0 _ rfl) rfl rfl rfl hl.1 (Nat.le_of_ble_eq_true rfl) rfl rfl ⟨(Nat.le_of_ble_eq_true rfl), (Nat.le_of_ble_eq_true rfl)⟩ ⟨(Nat.le_of_ble_eq_true rfl), (Nat.le_of_ble_eq_true rfl)⟩ dX2_leave_34) hS rfl (fun locs hS => ?_)
      refine lv_iload_n S.1 S.2.1 dX2_leave_37 rfl (lv_at hl 2 rfl) ?_
      refine lv_icmp_ne (tgt := 50) S.1 S.2.1 dX2_leave_38 (by decide) (fun (c3 : ¬ (f_X2_boatOf boatO (nI n)) = b) => ?_) (fun (c3 : (f_X2_boatOf boatO (nI n)) = b) => ?_)
      · refine lv_iinc (v := (nI (n + 1))) (lv' := [(3, .int (nI (n + 1))), (0, .ref (α (k))), (1, .int b), (2, .int d)]) S.1 S.2.1 dX2_leave_50 hl (k := 0) rfl ((nI_succ n).symm) (by decide) rfl (fun ls hl => ?_)
        refine lv_goto (tgt := 26) S.1 S.2.1 dX2_leave_53 (by decide) ?_
        have hL : (L_X2_leave_26 boatO seaO b (n + 1)) = (L_X2_leave_26 boatO seaO b n) := (iter_s _ _ _).trans (if_neg c3)
        refine ih (n + 1) (by omega) _ _ _ _ hP hD hS hF ?_ ?_
        · rw [hL]; exact hB0
        · exact lv_sub hl [0, 1, 2, 3] rfl
      · refine lv_aload_n S.1 S.2.1 dX2_leave_41 rfl (lv_at hl 1 rfl) ?_
        refine g_get (v := .ref (α (k + 2))) S hK hP (hB0 0 _ rfl) rfl inX2 1 (by decide) qw120 rfl dX2_leave_42 ?_
        refine lv_iload_n S.1 S.2.1 dX2_leave_45 rfl (lv_at hl 0 rfl) ?_
        refine lv_iconst (v := 1) S.1 S.2.1 dX2_leave_46 (by decide) ?_
        refine g_aft0 (st1 := []) (g_SN (As := [.ref (α (k + 2)), .int (nI n), .int 1]) (rest := []) S ms_X11_setCell qn_RX2_52 (c_X11_setCell l D A wl α (k + 2) 20 (L_X2_leave_26 boatO seaO b n) (nI n) 1 (hB0 2 _ rfl) (by first | assumption | exact vin_d (by decide) | exact vp_in_nI (by omega) (by decide) | decide | omega)) hK hP hD hE hS rfl rfl hl.1 (Nat.le_of_ble_eq_true rfl) rfl rfl ⟨(Nat.le_of_ble_eq_true rfl), (Nat.le_of_ble_eq_true rfl)⟩ ⟨(Nat.le_of_ble_eq_true rfl), (Nat.le_of_ble_eq_true rfl)⟩ dX2_leave_47) hS rfl (fun w3 H locs hQ hP hD hS => ?_)
        have hw := hQ
        have hF := Same.set hF 2 hw (by decide)
        have hB0 : Blk w3 k (cFleet D α k boatO (f_X11_setCell 20 (L_X2_leave_26 boatO seaO b n) (nI n) 1) faultO daysO (f_X11_setCell 6 backB b d) (f_X11_setCell 6 sailB b ((f_X2_sailedOf sailB b) + 1))) := hB0.set 2 hw (Nat.le_of_ble_eq_true rfl) rfl
        refine lv_iinc (v := (nI (n + 1))) (lv' := [(3, .int (nI (n + 1))), (0, .ref (α (k))), (1, .int b), (2, .int d)]) S.1 S.2.1 dX2_leave_50 hl (k := 0) rfl ((nI_succ n).symm) (by decide) rfl (fun ls hl => ?_)
        refine lv_goto (tgt := 26) S.1 S.2.1 dX2_leave_53 (by decide) ?_
        have hL : (L_X2_leave_26 boatO seaO b (n + 1)) = (f_X11_setCell 20 (L_X2_leave_26 boatO seaO b n) (nI n) 1) := (iter_s _ _ _).trans (if_pos c3)
        refine ih (n + 1) (by omega) _ _ _ _ hP hD hS hF ?_ ?_
        · rw [hL]; exact hB0
        · exact lv_sub hl [0, 1, 2, 3] rfl
  have hL0 : (L_X2_leave_26 boatO seaO b 0) = seaO := iter_z _ _
  exact lp26 20 0 (Nat.zero_add _) _ _ _ _ hP hD hS hF (by rw [hL0]; exact hB0) (lv_sub hl [0, 1, 2, 3] rfl)
def L_X2_arrive_17 (boatO : Nat → Int32) (seaO : Nat → Int32) (b : Int32) : Nat → (Nat → Int32) := iter_ (fun n sn => (if (f_X2_boatOf boatO (nI n)) = b then (f_X11_setCell 20 sn (nI n) 0) else sn)) seaO
def f_X2_arrive (boatO : Nat → Int32) (seaO : Nat → Int32) (backB : Nat → Int32) (b : Int32) : Int32 × (Nat → Int32) × (Nat → Int32) := ((f_X2_aboard boatO seaO b), (f_X11_setCell 6 backB b 0), (L_X2_arrive_17 boatO seaO b 20))
set_option maxHeartbeats 4000000 in
set_option maxRecDepth 100000 in
theorem c_X2_arrive (l : Launch) (D : va_G) (A : Nat → Prop) (w : va_W) (α : Nat → Nat) (k : Nat) (boatO : Nat → Int32) (seaO : Nat → Int32) (faultO : Nat → Int32) (daysO : Nat → Int32) (backB : Nat → Int32) (sailB : Nat → Int32) (b : Int32) (hB0 : Blk w k (cFleet D α k boatO seaO faultO daysO backB sailB)) : Met l yX2_arrive (ws_ yX2_arrive cX2_arrive 4 (some .int)) ({ frames := 3, cells := 0, slots := 0, locals := 66 }) (gPre D A [.ref (α (k)), .int b] w) (gQ D A (some (.int (f_X2_arrive boatO seaO backB b).1)) (fun w1 => Blk w1 k (cFleet D α k boatO ((f_X2_arrive boatO seaO backB b).2.2) faultO daysO ((f_X2_arrive boatO seaO backB b).2.1) sailB) ∧ Same w w1 k 7)) 0 0 A := by
  refine g_met [(0, .ref (α (k))), (1, .int b)] (plainFor_of_name (by decide)) (Nat.le_of_ble_eq_true rfl) rfl (fun pg en s mi ar below me co ls S hK hP hD hE hS hr hlk hnm hl => ?_)
  have hF : Same w w k 7 := Same.rf
  refine lv_aload_n S.1 S.2.1 dX2_arrive_0 rfl (lv_at hl 0 rfl) ?_
  refine lv_iload_n S.1 S.2.1 dX2_arrive_1 rfl (lv_at hl 1 rfl) ?_
  refine g_aftR0 (st1 := [.int (f_X2_aboard boatO seaO b)]) (g_V (As := [.int b]) (rest := []) S mi_X2_aboard qw1117 (c_X2_aboard l D A w α (k) boatO seaO faultO daysO backB sailB b hB0) hK hP hD hE hS (hB0 0 _ rfl) rfl rfl rfl hl.1 (Nat.le_of_ble_eq_true rfl) rfl rfl ⟨(Nat.le_of_ble_eq_true rfl), (Nat.le_of_ble_eq_true rfl)⟩ ⟨(Nat.le_of_ble_eq_true rfl), (Nat.le_of_ble_eq_true rfl)⟩ dX2_arrive_2) hS rfl (fun locs hS => ?_)
  refine lv_istore_n (lv' := [(2, .int (f_X2_aboard boatO seaO b)), (0, .ref (α (k))), (1, .int b)]) S.1 S.2.1 dX2_arrive_5 rfl hl (by decide) rfl (fun ls hl => ?_)
  refine lv_aload_n S.1 S.2.1 dX2_arrive_6 rfl (lv_at hl 1 rfl) ?_
  refine g_get (v := .ref (α (k + 5))) S hK hP (hB0 0 _ rfl) rfl inX2 4 (by decide) qw123 rfl dX2_arrive_7 ?_
  refine lv_iload_n S.1 S.2.1 dX2_arrive_10 rfl (lv_at hl 2 rfl) ?_
  refine lv_iconst (v := 0) S.1 S.2.1 dX2_arrive_11 (by decide) ?_
  refine g_aft0 (st1 := []) (g_SN (As := [.ref (α (k + 5)), .int b, .int 0]) (rest := []) S ms_X11_setCell qn_RX2_52 (c_X11_setCell l D A w α (k + 5) 6 backB b 0 (hB0 5 _ rfl) (by first | assumption | exact vin_d (by decide) | exact vp_in_nI (by omega) (by decide) | decide | omega)) hK hP hD hE hS rfl rfl hl.1 (Nat.le_of_ble_eq_true rfl) rfl rfl ⟨(Nat.le_of_ble_eq_true rfl), (Nat.le_of_ble_eq_true rfl)⟩ ⟨(Nat.le_of_ble_eq_true rfl), (Nat.le_of_ble_eq_true rfl)⟩ dX2_arrive_12) hS rfl (fun w1 H locs hQ hP hD hS => ?_)
  have hw := hQ
  have hF := Same.set hF 5 hw (by decide)
  have hB0 : Blk w1 k (cFleet D α k boatO seaO faultO daysO (f_X11_setCell 6 backB b 0) sailB) := hB0.set 5 hw (Nat.le_of_ble_eq_true rfl) rfl
  refine lv_iconst (v := 0) S.1 S.2.1 dX2_arrive_15 (by decide) ?_
  refine lv_istore_n (lv' := [(3, .int 0), (2, .int (f_X2_aboard boatO seaO b)), (0, .ref (α (k))), (1, .int b)]) S.1 S.2.1 dX2_arrive_16 rfl hl (by decide) rfl (fun ls hl => ?_)
  have lp17 : ∀ (j n : Nat), n + j = 20 → ∀ (wl : va_W) (H : Heap) (locs : List Loc) (ls : Array Slot), va_P D vwCl wl H → va_D A wl → va_S A s.heap H locs → Same w wl k 7 → Blk wl k (cFleet D α k boatO (L_X2_arrive_17 boatO seaO b n) faultO daysO (f_X11_setCell 6 backB b 0) sailB) → lv_has ls 4 [(3, .int (nI n)), (2, .int (f_X2_aboard boatO seaO b)), (0, .ref (α (k))), (1, .int b)] → W pg l en ({ frames := 3, cells := 0, slots := 0, locals := 66 } : Room) s mi ar below me co H locs 0 0 (MQ below (gQ D A (some (.int (f_X2_arrive boatO seaO backB b).1)) (fun w1 => Blk w1 k (cFleet D α k boatO ((f_X2_arrive boatO seaO backB b).2.2) faultO daysO ((f_X2_arrive boatO seaO backB b).2.1) sailB) ∧ Same w w1 k 7)) ar s 0 0 A) (F0 mi 17 ls []) := by
    intro j
    induction j with
    | zero =>
      intro n hn wl H locs ls hP hD hS hF hB0 hl
      have hn : 20 = n := hn.symm
      subst hn
      refine lv_iload_n S.1 S.2.1 dX2_arrive_17 rfl (lv_at hl 0 rfl) ?_
      refine lv_bipush (v := 20) S.1 S.2.1 dX2_arrive_18 (by decide) ?_
      refine lv_icmp_ge (tgt := 47) S.1 S.2.1 dX2_arrive_20 (by decide) (fun (c1 : 20 ≤ (nI 20)) => ?_) (fun (c1 : ¬ 20 ≤ (nI 20)) => absurd c1 (lp_out (s := 0) (by decide)))
      refine lv_iload_n S.1 S.2.1 dX2_arrive_47 rfl (lv_at hl 1 rfl) ?_
      have hf : (f_X2_arrive boatO seaO backB b) = ((f_X2_aboard boatO seaO b), (f_X11_setCell 6 backB b 0), (L_X2_arrive_17 boatO seaO b 20)) := rfl
      exact g_iret S hr hlk hP hD hS (by rw [hf] <;> rfl) (⟨by rw [hf]; exact hB0, hF⟩) dX2_arrive_48
    | succ j ih =>
      intro n hn wl H locs ls hP hD hS hF hB0 hl
      refine lv_iload_n S.1 S.2.1 dX2_arrive_17 rfl (lv_at hl 0 rfl) ?_
      refine lv_bipush (v := 20) S.1 S.2.1 dX2_arrive_18 (by decide) ?_
      refine lv_icmp_ge (tgt := 47) S.1 S.2.1 dX2_arrive_20 (by decide) (fun (c2 : 20 ≤ (nI n)) => absurd c2 (lp_in (s := 0) (by decide) hn)) (fun (c2 : ¬ 20 ≤ (nI n)) => ?_)
      refine lv_aload_n S.1 S.2.1 dX2_arrive_23 rfl (lv_at hl 2 rfl) ?_
      refine lv_iload_n S.1 S.2.1 dX2_arrive_24 rfl (lv_at hl 0 rfl) ?_
      refine g_aftR0 (st1 := [.int (f_X2_boatOf boatO (nI n))]) (g_V (As := [.int (nI n)]) (rest := []) S mi_X2_boatOf qw1116 (c_X2_boatOf l D A wl α (k) boatO (L_X2_arrive_17 boatO seaO b n) faultO daysO (f_X11_setCell 6 backB b 0) sailB (nI n) hB0) hK hP hD hE hS (hB0 0 _ rfl) rfl rfl rfl hl.1 (Nat.le_of_ble_eq_true rfl) rfl rfl ⟨(Nat.le_of_ble_eq_true rfl), (Nat.le_of_ble_eq_true rfl)⟩ ⟨(Nat.le_of_ble_eq_true rfl), (Nat.le_of_ble_eq_true rfl)⟩ dX2_arrive_25) hS rfl (fun locs hS => ?_)
      refine lv_iload_n S.1 S.2.1 dX2_arrive_28 rfl (lv_at hl 3 rfl) ?_
      refine lv_icmp_ne (tgt := 41) S.1 S.2.1 dX2_arrive_29 (by decide) (fun (c3 : ¬ (f_X2_boatOf boatO (nI n)) = b) => ?_) (fun (c3 : (f_X2_boatOf boatO (nI n)) = b) => ?_)
      · refine lv_iinc (v := (nI (n + 1))) (lv' := [(3, .int (nI (n + 1))), (2, .int (f_X2_aboard boatO seaO b)), (0, .ref (α (k))), (1, .int b)]) S.1 S.2.1 dX2_arrive_41 hl (k := 0) rfl ((nI_succ n).symm) (by decide) rfl (fun ls hl => ?_)
        refine lv_goto (tgt := 17) S.1 S.2.1 dX2_arrive_44 (by decide) ?_
        have hL : (L_X2_arrive_17 boatO seaO b (n + 1)) = (L_X2_arrive_17 boatO seaO b n) := (iter_s _ _ _).trans (if_neg c3)
        refine ih (n + 1) (by omega) _ _ _ _ hP hD hS hF ?_ ?_
        · rw [hL]; exact hB0
        · exact lv_sub hl [0, 1, 2, 3] rfl
      · refine lv_aload_n S.1 S.2.1 dX2_arrive_32 rfl (lv_at hl 2 rfl) ?_
        refine g_get (v := .ref (α (k + 2))) S hK hP (hB0 0 _ rfl) rfl inX2 1 (by decide) qw120 rfl dX2_arrive_33 ?_
        refine lv_iload_n S.1 S.2.1 dX2_arrive_36 rfl (lv_at hl 0 rfl) ?_
        refine lv_iconst (v := 0) S.1 S.2.1 dX2_arrive_37 (by decide) ?_
        refine g_aft0 (st1 := []) (g_SN (As := [.ref (α (k + 2)), .int (nI n), .int 0]) (rest := []) S ms_X11_setCell qn_RX2_52 (c_X11_setCell l D A wl α (k + 2) 20 (L_X2_arrive_17 boatO seaO b n) (nI n) 0 (hB0 2 _ rfl) (by first | assumption | exact vin_d (by decide) | exact vp_in_nI (by omega) (by decide) | decide | omega)) hK hP hD hE hS rfl rfl hl.1 (Nat.le_of_ble_eq_true rfl) rfl rfl ⟨(Nat.le_of_ble_eq_true rfl), (Nat.le_of_ble_eq_true rfl)⟩ ⟨(Nat.le_of_ble_eq_true rfl), (Nat.le_of_ble_eq_true rfl)⟩ dX2_arrive_38) hS rfl (fun w2 H locs hQ hP hD hS => ?_)
        have hw := hQ
        have hF := Same.set hF 2 hw (by decide)
        have hB0 : Blk w2 k (cFleet D α k boatO (f_X11_setCell 20 (L_X2_arrive_17 boatO seaO b n) (nI n) 0) faultO daysO (f_X11_setCell 6 backB b 0) sailB) := hB0.set 2 hw (Nat.le_of_ble_eq_true rfl) rfl
        refine lv_iinc (v := (nI (n + 1))) (lv' := [(3, .int (nI (n + 1))), (2, .int (f_X2_aboard boatO seaO b)), (0, .ref (α (k))), (1, .int b)]) S.1 S.2.1 dX2_arrive_41 hl (k := 0) rfl ((nI_succ n).symm) (by decide) rfl (fun ls hl => ?_)
        refine lv_goto (tgt := 17) S.1 S.2.1 dX2_arrive_44 (by decide) ?_
        have hL : (L_X2_arrive_17 boatO seaO b (n + 1)) = (f_X11_setCell 20 (L_X2_arrive_17 boatO seaO b n) (nI n) 0) := (iter_s _ _ _).trans (if_pos c3)
        refine ih (n + 1) (by omega) _ _ _ _ hP hD hS hF ?_ ?_
        · rw [hL]; exact hB0
        · exact lv_sub hl [0, 1, 2, 3] rfl
  have hL0 : (L_X2_arrive_17 boatO seaO b 0) = seaO := iter_z _ _
  exact lp17 20 0 (Nat.zero_add _) _ _ _ _ hP hD hS hF (by rw [hL0]; exact hB0) (lv_sub hl [0, 1, 2, 3] rfl)
def L_X2_countDayAtSea_2 (seaO : Nat → Int32) (daysO : Nat → Int32) : Nat → (Nat → Int32) := iter_ (fun n sn => (bif (f_X2_isAtSea seaO (nI n)) then (f_X11_setCell 20 sn (nI n) ((f_X2_daysAtSeaOf sn (nI n)) + 1)) else sn)) daysO
def f_X2_countDayAtSea (seaO : Nat → Int32) (daysO : Nat → Int32) : (Nat → Int32) := (L_X2_countDayAtSea_2 seaO daysO 20)
set_option maxHeartbeats 4000000 in
set_option maxRecDepth 100000 in
theorem c_X2_countDayAtSea (l : Launch) (D : va_G) (A : Nat → Prop) (w : va_W) (α : Nat → Nat) (k : Nat) (boatO : Nat → Int32) (seaO : Nat → Int32) (faultO : Nat → Int32) (daysO : Nat → Int32) (backB : Nat → Int32) (sailB : Nat → Int32) (hB0 : Blk w k (cFleet D α k boatO seaO faultO daysO backB sailB)) : Met l yX2_countDayAtSea (ws_ yX2_countDayAtSea cX2_countDayAtSea 2 none) ({ frames := 2, cells := 0, slots := 0, locals := 43 }) (gPre D A [.ref (α (k))] w) (gQ D A none (fun w1 => Blk w1 k (cFleet D α k boatO seaO faultO (f_X2_countDayAtSea seaO daysO) backB sailB) ∧ Same w w1 k 7)) 0 0 A := by
  refine g_met [(0, .ref (α (k)))] (plainFor_of_name (by decide)) (Nat.le_of_ble_eq_true rfl) rfl (fun pg en s mi ar below me co ls S hK hP hD hE hS hr hlk hnm hl => ?_)
  have hF : Same w w k 7 := Same.rf
  refine lv_iconst (v := 0) S.1 S.2.1 dX2_countDayAtSea_0 (by decide) ?_
  refine lv_istore_n (lv' := [(1, .int 0), (0, .ref (α (k)))]) S.1 S.2.1 dX2_countDayAtSea_1 rfl hl (by decide) rfl (fun ls hl => ?_)
  have lp2 : ∀ (j n : Nat), n + j = 20 → ∀ (wl : va_W) (H : Heap) (locs : List Loc) (ls : Array Slot), va_P D vwCl wl H → va_D A wl → va_S A s.heap H locs → Same w wl k 7 → Blk wl k (cFleet D α k boatO seaO faultO (L_X2_countDayAtSea_2 seaO daysO n) backB sailB) → lv_has ls 2 [(1, .int (nI n)), (0, .ref (α (k)))] → W pg l en ({ frames := 2, cells := 0, slots := 0, locals := 43 } : Room) s mi ar below me co H locs 0 0 (MQ below (gQ D A none (fun w1 => Blk w1 k (cFleet D α k boatO seaO faultO (f_X2_countDayAtSea seaO daysO) backB sailB) ∧ Same w w1 k 7)) ar s 0 0 A) (F0 mi 2 ls []) := by
    intro j
    induction j with
    | zero =>
      intro n hn wl H locs ls hP hD hS hF hB0 hl
      have hn : 20 = n := hn.symm
      subst hn
      refine lv_iload_n S.1 S.2.1 dX2_countDayAtSea_2 rfl (lv_at hl 0 rfl) ?_
      refine lv_bipush (v := 20) S.1 S.2.1 dX2_countDayAtSea_3 (by decide) ?_
      refine lv_icmp_ge (tgt := 37) S.1 S.2.1 dX2_countDayAtSea_5 (by decide) (fun (c1 : 20 ≤ (nI 20)) => ?_) (fun (c1 : ¬ 20 ≤ (nI 20)) => absurd c1 (lp_out (s := 0) (by decide)))
      have hf : (f_X2_countDayAtSea seaO daysO) = (L_X2_countDayAtSea_2 seaO daysO 20) := rfl
      exact g_vret S hr hlk hP hD hS (rfl) (⟨by rw [hf]; exact hB0, hF⟩) dX2_countDayAtSea_37
    | succ j ih =>
      intro n hn wl H locs ls hP hD hS hF hB0 hl
      refine lv_iload_n S.1 S.2.1 dX2_countDayAtSea_2 rfl (lv_at hl 0 rfl) ?_
      refine lv_bipush (v := 20) S.1 S.2.1 dX2_countDayAtSea_3 (by decide) ?_
      refine lv_icmp_ge (tgt := 37) S.1 S.2.1 dX2_countDayAtSea_5 (by decide) (fun (c2 : 20 ≤ (nI n)) => absurd c2 (lp_in (s := 0) (by decide) hn)) (fun (c2 : ¬ 20 ≤ (nI n)) => ?_)
      refine lv_aload_n S.1 S.2.1 dX2_countDayAtSea_8 rfl (lv_at hl 1 rfl) ?_
      refine lv_iload_n S.1 S.2.1 dX2_countDayAtSea_9 rfl (lv_at hl 0 rfl) ?_
      refine g_aftR0 (st1 := [.int (b2i (f_X2_isAtSea seaO (nI n)))]) (g_V (As := [.int (nI n)]) (rest := []) S mi_X2_isAtSea qw754 (c_X2_isAtSea l D A wl α (k) boatO seaO faultO (L_X2_countDayAtSea_2 seaO daysO n) backB sailB (nI n) hB0) hK hP hD hE hS (hB0 0 _ rfl) rfl rfl rfl hl.1 (Nat.le_of_ble_eq_true rfl) rfl rfl ⟨(Nat.le_of_ble_eq_true rfl), (Nat.le_of_ble_eq_true rfl)⟩ ⟨(Nat.le_of_ble_eq_true rfl), (Nat.le_of_ble_eq_true rfl)⟩ dX2_countDayAtSea_10) hS rfl (fun locs hS => ?_)
      refine g_bifeq (b := (f_X2_isAtSea seaO (nI n))) (tgt := 31) S dX2_countDayAtSea_13 (by decide) (fun (c3 : (f_X2_isAtSea seaO (nI n)) = false) => ?_) (fun (c3 : (f_X2_isAtSea seaO (nI n)) = true) => ?_)
      · refine lv_iinc (v := (nI (n + 1))) (lv' := [(1, .int (nI (n + 1))), (0, .ref (α (k)))]) S.1 S.2.1 dX2_countDayAtSea_31 hl (k := 0) rfl ((nI_succ n).symm) (by decide) rfl (fun ls hl => ?_)
        refine lv_goto (tgt := 2) S.1 S.2.1 dX2_countDayAtSea_34 (by decide) ?_
        have hL : (L_X2_countDayAtSea_2 seaO daysO (n + 1)) = (L_X2_countDayAtSea_2 seaO daysO n) := (iter_s _ _ _).trans (cd_f c3)
        refine ih (n + 1) (by omega) _ _ _ _ hP hD hS hF ?_ ?_
        · rw [hL]; exact hB0
        · exact lv_sub hl [0, 1] rfl
      · refine lv_aload_n S.1 S.2.1 dX2_countDayAtSea_16 rfl (lv_at hl 1 rfl) ?_
        refine g_get (v := .ref (α (k + 4))) S hK hP (hB0 0 _ rfl) rfl inX2 3 (by decide) qw122 rfl dX2_countDayAtSea_17 ?_
        refine lv_iload_n S.1 S.2.1 dX2_countDayAtSea_20 rfl (lv_at hl 0 rfl) ?_
        refine lv_aload_n S.1 S.2.1 dX2_countDayAtSea_21 rfl (lv_at hl 1 rfl) ?_
        refine lv_iload_n S.1 S.2.1 dX2_countDayAtSea_22 rfl (lv_at hl 0 rfl) ?_
        refine g_aftR0 (st1 := [.int (f_X2_daysAtSeaOf (L_X2_countDayAtSea_2 seaO daysO n) (nI n)), .int (nI n), .ref (α (k + 4))]) (g_V (As := [.int (nI n)]) (rest := [.int (nI n), .ref (α (k + 4))]) S mi_X2_daysAtSeaOf qw1295 (c_X2_daysAtSeaOf l D A wl α (k) boatO seaO faultO (L_X2_countDayAtSea_2 seaO daysO n) backB sailB (nI n) hB0) hK hP hD hE hS (hB0 0 _ rfl) rfl rfl rfl hl.1 (Nat.le_of_ble_eq_true rfl) rfl rfl ⟨(Nat.le_of_ble_eq_true rfl), (Nat.le_of_ble_eq_true rfl)⟩ ⟨(Nat.le_of_ble_eq_true rfl), (Nat.le_of_ble_eq_true rfl)⟩ dX2_countDayAtSea_23) hS rfl (fun locs hS => ?_)
        refine lv_iconst (v := 1) S.1 S.2.1 dX2_countDayAtSea_26 (by decide) ?_
        refine lv_iadd S.1 S.2.1 dX2_countDayAtSea_27 ?_
        refine g_aft0 (st1 := []) (g_SN (As := [.ref (α (k + 4)), .int (nI n), .int ((f_X2_daysAtSeaOf (L_X2_countDayAtSea_2 seaO daysO n) (nI n)) + 1)]) (rest := []) S ms_X11_setCell qn_RX2_52 (c_X11_setCell l D A wl α (k + 4) 20 (L_X2_countDayAtSea_2 seaO daysO n) (nI n) ((f_X2_daysAtSeaOf (L_X2_countDayAtSea_2 seaO daysO n) (nI n)) + 1) (hB0 4 _ rfl) (by first | assumption | exact vin_d (by decide) | exact vp_in_nI (by omega) (by decide) | decide | omega)) hK hP hD hE hS rfl rfl hl.1 (Nat.le_of_ble_eq_true rfl) rfl rfl ⟨(Nat.le_of_ble_eq_true rfl), (Nat.le_of_ble_eq_true rfl)⟩ ⟨(Nat.le_of_ble_eq_true rfl), (Nat.le_of_ble_eq_true rfl)⟩ dX2_countDayAtSea_28) hS rfl (fun w1 H locs hQ hP hD hS => ?_)
        have hw := hQ
        have hF := Same.set hF 4 hw (by decide)
        have hB0 : Blk w1 k (cFleet D α k boatO seaO faultO (f_X11_setCell 20 (L_X2_countDayAtSea_2 seaO daysO n) (nI n) ((f_X2_daysAtSeaOf (L_X2_countDayAtSea_2 seaO daysO n) (nI n)) + 1)) backB sailB) := hB0.set 4 hw (Nat.le_of_ble_eq_true rfl) rfl
        refine lv_iinc (v := (nI (n + 1))) (lv' := [(1, .int (nI (n + 1))), (0, .ref (α (k)))]) S.1 S.2.1 dX2_countDayAtSea_31 hl (k := 0) rfl ((nI_succ n).symm) (by decide) rfl (fun ls hl => ?_)
        refine lv_goto (tgt := 2) S.1 S.2.1 dX2_countDayAtSea_34 (by decide) ?_
        have hL : (L_X2_countDayAtSea_2 seaO daysO (n + 1)) = (f_X11_setCell 20 (L_X2_countDayAtSea_2 seaO daysO n) (nI n) ((f_X2_daysAtSeaOf (L_X2_countDayAtSea_2 seaO daysO n) (nI n)) + 1)) := (iter_s _ _ _).trans (cd_t c3)
        refine ih (n + 1) (by omega) _ _ _ _ hP hD hS hF ?_ ?_
        · rw [hL]; exact hB0
        · exact lv_sub hl [0, 1] rfl
  have hL0 : (L_X2_countDayAtSea_2 seaO daysO 0) = daysO := iter_z _ _
  exact lp2 20 0 (Nat.zero_add _) _ _ _ _ hP hD hS hF (by rw [hL0]; exact hB0) (lv_sub hl [0, 1] rfl)
def L_X2_belongingTo_4 (boatO : Nat → Int32) (b : Int32) : Nat → Int32 := iter_ (fun n sn => (if (f_X2_boatOf boatO (nI n)) = b then (sn + 1) else sn)) 0
def f_X2_belongingTo (boatO : Nat → Int32) (b : Int32) : Int32 := (L_X2_belongingTo_4 boatO b 20)
set_option maxHeartbeats 4000000 in
set_option maxRecDepth 100000 in
theorem c_X2_belongingTo (l : Launch) (D : va_G) (A : Nat → Prop) (w : va_W) (α : Nat → Nat) (k : Nat) (boatO : Nat → Int32) (seaO : Nat → Int32) (faultO : Nat → Int32) (daysO : Nat → Int32) (backB : Nat → Int32) (sailB : Nat → Int32) (b : Int32) (hB0 : Blk w k (cFleet D α k boatO seaO faultO daysO backB sailB)) : Met l yX2_belongingTo (ws_ yX2_belongingTo cX2_belongingTo 4 (some .int)) ({ frames := 2, cells := 0, slots := 0, locals := 43 }) (gPre D A [.ref (α (k)), .int b] w) (gR (some (.int (f_X2_belongingTo boatO b)))) 0 0 A := by
  refine g_met [(0, .ref (α (k))), (1, .int b)] (plainFor_of_name (by decide)) (Nat.le_of_ble_eq_true rfl) rfl (fun pg en s mi ar below me co ls S hK hP hD hE hS hr hlk hnm hl => ?_)
  refine lv_iconst (v := 0) S.1 S.2.1 dX2_belongingTo_0 (by decide) ?_
  refine lv_istore_n (lv' := [(2, .int 0), (0, .ref (α (k))), (1, .int b)]) S.1 S.2.1 dX2_belongingTo_1 rfl hl (by decide) rfl (fun ls hl => ?_)
  refine lv_iconst (v := 0) S.1 S.2.1 dX2_belongingTo_2 (by decide) ?_
  refine lv_istore_n (lv' := [(3, .int 0), (2, .int 0), (0, .ref (α (k))), (1, .int b)]) S.1 S.2.1 dX2_belongingTo_3 rfl hl (by decide) rfl (fun ls hl => ?_)
  have lp4 : ∀ (j n : Nat), n + j = 20 → ∀ (locs : List Loc) (ls : Array Slot), va_S A s.heap s.heap locs → lv_has ls 4 [(3, .int (nI n)), (2, .int (L_X2_belongingTo_4 boatO b n)), (0, .ref (α (k))), (1, .int b)] → W pg l en ({ frames := 2, cells := 0, slots := 0, locals := 43 } : Room) s mi ar below me co s.heap locs 0 0 (MQ below (gR (some (.int (f_X2_belongingTo boatO b)))) ar s 0 0 A) (F0 mi 4 ls []) := by
    intro j
    induction j with
    | zero =>
      intro n hn locs ls hS hl
      have hn : 20 = n := hn.symm
      subst hn
      refine lv_iload_n S.1 S.2.1 dX2_belongingTo_4 rfl (lv_at hl 0 rfl) ?_
      refine lv_bipush (v := 20) S.1 S.2.1 dX2_belongingTo_5 (by decide) ?_
      refine lv_icmp_ge (tgt := 28) S.1 S.2.1 dX2_belongingTo_7 (by decide) (fun (c1 : 20 ≤ (nI 20)) => ?_) (fun (c1 : ¬ 20 ≤ (nI 20)) => absurd c1 (lp_out (s := 0) (by decide)))
      refine lv_iload_n S.1 S.2.1 dX2_belongingTo_28 rfl (lv_at hl 1 rfl) ?_
      have hf : (f_X2_belongingTo boatO b) = (L_X2_belongingTo_4 boatO b 20) := rfl
      exact g_iretR S hr hlk hS (by rw [hf] <;> rfl) dX2_belongingTo_29
    | succ j ih =>
      intro n hn locs ls hS hl
      refine lv_iload_n S.1 S.2.1 dX2_belongingTo_4 rfl (lv_at hl 0 rfl) ?_
      refine lv_bipush (v := 20) S.1 S.2.1 dX2_belongingTo_5 (by decide) ?_
      refine lv_icmp_ge (tgt := 28) S.1 S.2.1 dX2_belongingTo_7 (by decide) (fun (c2 : 20 ≤ (nI n)) => absurd c2 (lp_in (s := 0) (by decide) hn)) (fun (c2 : ¬ 20 ≤ (nI n)) => ?_)
      refine lv_aload_n S.1 S.2.1 dX2_belongingTo_10 rfl (lv_at hl 2 rfl) ?_
      refine lv_iload_n S.1 S.2.1 dX2_belongingTo_11 rfl (lv_at hl 0 rfl) ?_
      refine g_aftR0 (st1 := [.int (f_X2_boatOf boatO (nI n))]) (g_V (As := [.int (nI n)]) (rest := []) S mi_X2_boatOf qw1116 (c_X2_boatOf l D A w α (k) boatO seaO faultO daysO backB sailB (nI n) hB0) hK hP hD hE hS (hB0 0 _ rfl) rfl rfl rfl hl.1 (Nat.le_of_ble_eq_true rfl) rfl rfl ⟨(Nat.le_of_ble_eq_true rfl), (Nat.le_of_ble_eq_true rfl)⟩ ⟨(Nat.le_of_ble_eq_true rfl), (Nat.le_of_ble_eq_true rfl)⟩ dX2_belongingTo_12) hS rfl (fun locs hS => ?_)
      refine lv_iload_n S.1 S.2.1 dX2_belongingTo_15 rfl (lv_at hl 3 rfl) ?_
      refine lv_icmp_ne (tgt := 22) S.1 S.2.1 dX2_belongingTo_16 (by decide) (fun (c3 : ¬ (f_X2_boatOf boatO (nI n)) = b) => ?_) (fun (c3 : (f_X2_boatOf boatO (nI n)) = b) => ?_)
      · refine lv_iinc (v := (nI (n + 1))) (lv' := [(3, .int (nI (n + 1))), (2, .int (L_X2_belongingTo_4 boatO b n)), (0, .ref (α (k))), (1, .int b)]) S.1 S.2.1 dX2_belongingTo_22 hl (k := 0) rfl ((nI_succ n).symm) (by decide) rfl (fun ls hl => ?_)
        refine lv_goto (tgt := 4) S.1 S.2.1 dX2_belongingTo_25 (by decide) ?_
        have hL : (L_X2_belongingTo_4 boatO b (n + 1)) = (L_X2_belongingTo_4 boatO b n) := (iter_s _ _ _).trans (if_neg c3)
        refine ih (n + 1) (by omega) _ _ hS ?_
        rw [hL]; exact lv_sub hl [0, 1, 2, 3] rfl
      · refine lv_iinc (v := ((L_X2_belongingTo_4 boatO b n) + 1)) (lv' := [(2, .int ((L_X2_belongingTo_4 boatO b n) + 1)), (3, .int (nI n)), (0, .ref (α (k))), (1, .int b)]) S.1 S.2.1 dX2_belongingTo_19 hl (k := 1) rfl (rfl) (by decide) rfl (fun ls hl => ?_)
        refine lv_iinc (v := (nI (n + 1))) (lv' := [(3, .int (nI (n + 1))), (2, .int ((L_X2_belongingTo_4 boatO b n) + 1)), (0, .ref (α (k))), (1, .int b)]) S.1 S.2.1 dX2_belongingTo_22 hl (k := 1) rfl ((nI_succ n).symm) (by decide) rfl (fun ls hl => ?_)
        refine lv_goto (tgt := 4) S.1 S.2.1 dX2_belongingTo_25 (by decide) ?_
        have hL : (L_X2_belongingTo_4 boatO b (n + 1)) = ((L_X2_belongingTo_4 boatO b n) + 1) := (iter_s _ _ _).trans (if_pos c3)
        refine ih (n + 1) (by omega) _ _ hS ?_
        rw [hL]; exact lv_sub hl [0, 1, 2, 3] rfl
  have hL0 : (L_X2_belongingTo_4 boatO b 0) = 0 := iter_z _ _
  exact lp4 20 0 (Nat.zero_add _) _ _ hS (by rw [hL0]; exact lv_sub hl [0, 1, 2, 3] rfl)
def L_X2_boatsOut_4 (backB : Nat → Int32) : Nat → Int32 := iter_ (fun n sn => (bif (f_X2_isOut backB (nI n)) then (sn + 1) else sn)) 0
def f_X2_boatsOut (backB : Nat → Int32) : Int32 := (L_X2_boatsOut_4 backB 6)
set_option maxHeartbeats 4000000 in
set_option maxRecDepth 100000 in
theorem c_X2_boatsOut (l : Launch) (D : va_G) (A : Nat → Prop) (w : va_W) (α : Nat → Nat) (k : Nat) (boatO : Nat → Int32) (seaO : Nat → Int32) (faultO : Nat → Int32) (daysO : Nat → Int32) (backB : Nat → Int32) (sailB : Nat → Int32) (hB0 : Blk w k (cFleet D α k boatO seaO faultO daysO backB sailB)) : Met l yX2_boatsOut (ws_ yX2_boatsOut cX2_boatsOut 3 (some .int)) ({ frames := 2, cells := 0, slots := 0, locals := 43 }) (gPre D A [.ref (α (k))] w) (gR (some (.int (f_X2_boatsOut backB)))) 0 0 A := by
  refine g_met [(0, .ref (α (k)))] (plainFor_of_name (by decide)) (Nat.le_of_ble_eq_true rfl) rfl (fun pg en s mi ar below me co ls S hK hP hD hE hS hr hlk hnm hl => ?_)
  refine lv_iconst (v := 0) S.1 S.2.1 dX2_boatsOut_0 (by decide) ?_
  refine lv_istore_n (lv' := [(1, .int 0), (0, .ref (α (k)))]) S.1 S.2.1 dX2_boatsOut_1 rfl hl (by decide) rfl (fun ls hl => ?_)
  refine lv_iconst (v := 0) S.1 S.2.1 dX2_boatsOut_2 (by decide) ?_
  refine lv_istore_n (lv' := [(2, .int 0), (1, .int 0), (0, .ref (α (k)))]) S.1 S.2.1 dX2_boatsOut_3 rfl hl (by decide) rfl (fun ls hl => ?_)
  have lp4 : ∀ (j n : Nat), n + j = 6 → ∀ (locs : List Loc) (ls : Array Slot), va_S A s.heap s.heap locs → lv_has ls 3 [(2, .int (nI n)), (1, .int (L_X2_boatsOut_4 backB n)), (0, .ref (α (k)))] → W pg l en ({ frames := 2, cells := 0, slots := 0, locals := 43 } : Room) s mi ar below me co s.heap locs 0 0 (MQ below (gR (some (.int (f_X2_boatsOut backB)))) ar s 0 0 A) (F0 mi 4 ls []) := by
    intro j
    induction j with
    | zero =>
      intro n hn locs ls hS hl
      have hn : 6 = n := hn.symm
      subst hn
      refine lv_iload_n S.1 S.2.1 dX2_boatsOut_4 rfl (lv_at hl 0 rfl) ?_
      refine lv_bipush (v := 6) S.1 S.2.1 dX2_boatsOut_5 (by decide) ?_
      refine lv_icmp_ge (tgt := 27) S.1 S.2.1 dX2_boatsOut_7 (by decide) (fun (c1 : 6 ≤ (nI 6)) => ?_) (fun (c1 : ¬ 6 ≤ (nI 6)) => absurd c1 (lp_out (s := 0) (by decide)))
      refine lv_iload_n S.1 S.2.1 dX2_boatsOut_27 rfl (lv_at hl 1 rfl) ?_
      have hf : (f_X2_boatsOut backB) = (L_X2_boatsOut_4 backB 6) := rfl
      exact g_iretR S hr hlk hS (by rw [hf] <;> rfl) dX2_boatsOut_28
    | succ j ih =>
      intro n hn locs ls hS hl
      refine lv_iload_n S.1 S.2.1 dX2_boatsOut_4 rfl (lv_at hl 0 rfl) ?_
      refine lv_bipush (v := 6) S.1 S.2.1 dX2_boatsOut_5 (by decide) ?_
      refine lv_icmp_ge (tgt := 27) S.1 S.2.1 dX2_boatsOut_7 (by decide) (fun (c2 : 6 ≤ (nI n)) => absurd c2 (lp_in (s := 0) (by decide) hn)) (fun (c2 : ¬ 6 ≤ (nI n)) => ?_)
      refine lv_aload_n S.1 S.2.1 dX2_boatsOut_10 rfl (lv_at hl 2 rfl) ?_
      refine lv_iload_n S.1 S.2.1 dX2_boatsOut_11 rfl (lv_at hl 0 rfl) ?_
      refine g_aftR0 (st1 := [.int (b2i (f_X2_isOut backB (nI n)))]) (g_V (As := [.int (nI n)]) (rest := []) S mi_X2_isOut qw746 (c_X2_isOut l D A w α (k) boatO seaO faultO daysO backB sailB (nI n) hB0) hK hP hD hE hS (hB0 0 _ rfl) rfl rfl rfl hl.1 (Nat.le_of_ble_eq_true rfl) rfl rfl ⟨(Nat.le_of_ble_eq_true rfl), (Nat.le_of_ble_eq_true rfl)⟩ ⟨(Nat.le_of_ble_eq_true rfl), (Nat.le_of_ble_eq_true rfl)⟩ dX2_boatsOut_12) hS rfl (fun locs hS => ?_)
      refine g_bifeq (b := (f_X2_isOut backB (nI n))) (tgt := 21) S dX2_boatsOut_15 (by decide) (fun (c3 : (f_X2_isOut backB (nI n)) = false) => ?_) (fun (c3 : (f_X2_isOut backB (nI n)) = true) => ?_)
      · refine lv_iinc (v := (nI (n + 1))) (lv' := [(2, .int (nI (n + 1))), (1, .int (L_X2_boatsOut_4 backB n)), (0, .ref (α (k)))]) S.1 S.2.1 dX2_boatsOut_21 hl (k := 0) rfl ((nI_succ n).symm) (by decide) rfl (fun ls hl => ?_)
        refine lv_goto (tgt := 4) S.1 S.2.1 dX2_boatsOut_24 (by decide) ?_
        have hL : (L_X2_boatsOut_4 backB (n + 1)) = (L_X2_boatsOut_4 backB n) := (iter_s _ _ _).trans (cd_f c3)
        refine ih (n + 1) (by omega) _ _ hS ?_
        rw [hL]; exact lv_sub hl [0, 1, 2] rfl
      · refine lv_iinc (v := ((L_X2_boatsOut_4 backB n) + 1)) (lv' := [(1, .int ((L_X2_boatsOut_4 backB n) + 1)), (2, .int (nI n)), (0, .ref (α (k)))]) S.1 S.2.1 dX2_boatsOut_18 hl (k := 1) rfl (rfl) (by decide) rfl (fun ls hl => ?_)
        refine lv_iinc (v := (nI (n + 1))) (lv' := [(2, .int (nI (n + 1))), (1, .int ((L_X2_boatsOut_4 backB n) + 1)), (0, .ref (α (k)))]) S.1 S.2.1 dX2_boatsOut_21 hl (k := 1) rfl ((nI_succ n).symm) (by decide) rfl (fun ls hl => ?_)
        refine lv_goto (tgt := 4) S.1 S.2.1 dX2_boatsOut_24 (by decide) ?_
        have hL : (L_X2_boatsOut_4 backB (n + 1)) = ((L_X2_boatsOut_4 backB n) + 1) := (iter_s _ _ _).trans (cd_t c3)
        refine ih (n + 1) (by omega) _ _ hS ?_
        rw [hL]; exact lv_sub hl [0, 1, 2] rfl
  have hL0 : (L_X2_boatsOut_4 backB 0) = 0 := iter_z _ _
  exact lp4 6 0 (Nat.zero_add _) _ _ hS (by rw [hL0]; exact lv_sub hl [0, 1, 2] rfl)
def L_X2_boatsOutOn_4 (backB : Nat → Int32) (d : Int32) : Nat → Int32 := iter_ (fun n sn => (bif (f_X2_isOut backB (nI n)) then (if (f_X2_backOf backB (nI n)) ≤ d then sn else (sn + 1)) else sn)) 0
def f_X2_boatsOutOn (backB : Nat → Int32) (d : Int32) : Int32 := (L_X2_boatsOutOn_4 backB d 6)
set_option maxHeartbeats 4000000 in
set_option maxRecDepth 100000 in
theorem c_X2_boatsOutOn (l : Launch) (D : va_G) (A : Nat → Prop) (w : va_W) (α : Nat → Nat) (k : Nat) (boatO : Nat → Int32) (seaO : Nat → Int32) (faultO : Nat → Int32) (daysO : Nat → Int32) (backB : Nat → Int32) (sailB : Nat → Int32) (d : Int32) (hB0 : Blk w k (cFleet D α k boatO seaO faultO daysO backB sailB)) : Met l yX2_boatsOutOn (ws_ yX2_boatsOutOn cX2_boatsOutOn 4 (some .int)) ({ frames := 2, cells := 0, slots := 0, locals := 43 }) (gPre D A [.ref (α (k)), .int d] w) (gR (some (.int (f_X2_boatsOutOn backB d)))) 0 0 A := by
  refine g_met [(0, .ref (α (k))), (1, .int d)] (plainFor_of_name (by decide)) (Nat.le_of_ble_eq_true rfl) rfl (fun pg en s mi ar below me co ls S hK hP hD hE hS hr hlk hnm hl => ?_)
  refine lv_iconst (v := 0) S.1 S.2.1 dX2_boatsOutOn_0 (by decide) ?_
  refine lv_istore_n (lv' := [(2, .int 0), (0, .ref (α (k))), (1, .int d)]) S.1 S.2.1 dX2_boatsOutOn_1 rfl hl (by decide) rfl (fun ls hl => ?_)
  refine lv_iconst (v := 0) S.1 S.2.1 dX2_boatsOutOn_2 (by decide) ?_
  refine lv_istore_n (lv' := [(3, .int 0), (2, .int 0), (0, .ref (α (k))), (1, .int d)]) S.1 S.2.1 dX2_boatsOutOn_3 rfl hl (by decide) rfl (fun ls hl => ?_)
  have lp4 : ∀ (j n : Nat), n + j = 6 → ∀ (locs : List Loc) (ls : Array Slot), va_S A s.heap s.heap locs → lv_has ls 4 [(3, .int (nI n)), (2, .int (L_X2_boatsOutOn_4 backB d n)), (0, .ref (α (k))), (1, .int d)] → W pg l en ({ frames := 2, cells := 0, slots := 0, locals := 43 } : Room) s mi ar below me co s.heap locs 0 0 (MQ below (gR (some (.int (f_X2_boatsOutOn backB d)))) ar s 0 0 A) (F0 mi 4 ls []) := by
    intro j
    induction j with
    | zero =>
      intro n hn locs ls hS hl
      have hn : 6 = n := hn.symm
      subst hn
      refine lv_iload_n S.1 S.2.1 dX2_boatsOutOn_4 rfl (lv_at hl 0 rfl) ?_
      refine lv_bipush (v := 6) S.1 S.2.1 dX2_boatsOutOn_5 (by decide) ?_
      refine lv_icmp_ge (tgt := 36) S.1 S.2.1 dX2_boatsOutOn_7 (by decide) (fun (c1 : 6 ≤ (nI 6)) => ?_) (fun (c1 : ¬ 6 ≤ (nI 6)) => absurd c1 (lp_out (s := 0) (by decide)))
      refine lv_iload_n S.1 S.2.1 dX2_boatsOutOn_36 rfl (lv_at hl 1 rfl) ?_
      have hf : (f_X2_boatsOutOn backB d) = (L_X2_boatsOutOn_4 backB d 6) := rfl
      exact g_iretR S hr hlk hS (by rw [hf] <;> rfl) dX2_boatsOutOn_37
    | succ j ih =>
      intro n hn locs ls hS hl
      refine lv_iload_n S.1 S.2.1 dX2_boatsOutOn_4 rfl (lv_at hl 0 rfl) ?_
      refine lv_bipush (v := 6) S.1 S.2.1 dX2_boatsOutOn_5 (by decide) ?_
      refine lv_icmp_ge (tgt := 36) S.1 S.2.1 dX2_boatsOutOn_7 (by decide) (fun (c2 : 6 ≤ (nI n)) => absurd c2 (lp_in (s := 0) (by decide) hn)) (fun (c2 : ¬ 6 ≤ (nI n)) => ?_)
      refine lv_aload_n S.1 S.2.1 dX2_boatsOutOn_10 rfl (lv_at hl 2 rfl) ?_
      refine lv_iload_n S.1 S.2.1 dX2_boatsOutOn_11 rfl (lv_at hl 0 rfl) ?_
      refine g_aftR0 (st1 := [.int (b2i (f_X2_isOut backB (nI n)))]) (g_V (As := [.int (nI n)]) (rest := []) S mi_X2_isOut qw746 (c_X2_isOut l D A w α (k) boatO seaO faultO daysO backB sailB (nI n) hB0) hK hP hD hE hS (hB0 0 _ rfl) rfl rfl rfl hl.1 (Nat.le_of_ble_eq_true rfl) rfl rfl ⟨(Nat.le_of_ble_eq_true rfl), (Nat.le_of_ble_eq_true rfl)⟩ ⟨(Nat.le_of_ble_eq_true rfl), (Nat.le_of_ble_eq_true rfl)⟩ dX2_boatsOutOn_12) hS rfl (fun locs hS => ?_)
      refine g_bifeq (b := (f_X2_isOut backB (nI n))) (tgt := 30) S dX2_boatsOutOn_15 (by decide) (fun (c3 : (f_X2_isOut backB (nI n)) = false) => ?_) (fun (c3 : (f_X2_isOut backB (nI n)) = true) => ?_)
      · refine lv_iinc (v := (nI (n + 1))) (lv' := [(3, .int (nI (n + 1))), (2, .int (L_X2_boatsOutOn_4 backB d n)), (0, .ref (α (k))), (1, .int d)]) S.1 S.2.1 dX2_boatsOutOn_30 hl (k := 0) rfl ((nI_succ n).symm) (by decide) rfl (fun ls hl => ?_)
        refine lv_goto (tgt := 4) S.1 S.2.1 dX2_boatsOutOn_33 (by decide) ?_
        have hL : (L_X2_boatsOutOn_4 backB d (n + 1)) = (L_X2_boatsOutOn_4 backB d n) := (iter_s _ _ _).trans (cd_f c3)
        refine ih (n + 1) (by omega) _ _ hS ?_
        rw [hL]; exact lv_sub hl [0, 1, 2, 3] rfl
      · refine lv_aload_n S.1 S.2.1 dX2_boatsOutOn_18 rfl (lv_at hl 2 rfl) ?_
        refine lv_iload_n S.1 S.2.1 dX2_boatsOutOn_19 rfl (lv_at hl 0 rfl) ?_
        refine g_aftR0 (st1 := [.int (f_X2_backOf backB (nI n))]) (g_V (As := [.int (nI n)]) (rest := []) S mi_X2_backOf qw1129 (c_X2_backOf l D A w α (k) boatO seaO faultO daysO backB sailB (nI n) hB0) hK hP hD hE hS (hB0 0 _ rfl) rfl rfl rfl hl.1 (Nat.le_of_ble_eq_true rfl) rfl rfl ⟨(Nat.le_of_ble_eq_true rfl), (Nat.le_of_ble_eq_true rfl)⟩ ⟨(Nat.le_of_ble_eq_true rfl), (Nat.le_of_ble_eq_true rfl)⟩ dX2_boatsOutOn_20) hS rfl (fun locs hS => ?_)
        refine lv_iload_n S.1 S.2.1 dX2_boatsOutOn_23 rfl (lv_at hl 3 rfl) ?_
        refine lv_icmp_le (tgt := 30) S.1 S.2.1 dX2_boatsOutOn_24 (by decide) (fun (c4 : (f_X2_backOf backB (nI n)) ≤ d) => ?_) (fun (c4 : ¬ (f_X2_backOf backB (nI n)) ≤ d) => ?_)
        · refine lv_iinc (v := (nI (n + 1))) (lv' := [(3, .int (nI (n + 1))), (2, .int (L_X2_boatsOutOn_4 backB d n)), (0, .ref (α (k))), (1, .int d)]) S.1 S.2.1 dX2_boatsOutOn_30 hl (k := 0) rfl ((nI_succ n).symm) (by decide) rfl (fun ls hl => ?_)
          refine lv_goto (tgt := 4) S.1 S.2.1 dX2_boatsOutOn_33 (by decide) ?_
          have hL : (L_X2_boatsOutOn_4 backB d (n + 1)) = (L_X2_boatsOutOn_4 backB d n) := (iter_s _ _ _).trans ((cd_t c3).trans (if_pos c4))
          refine ih (n + 1) (by omega) _ _ hS ?_
          rw [hL]; exact lv_sub hl [0, 1, 2, 3] rfl
        · refine lv_iinc (v := ((L_X2_boatsOutOn_4 backB d n) + 1)) (lv' := [(2, .int ((L_X2_boatsOutOn_4 backB d n) + 1)), (3, .int (nI n)), (0, .ref (α (k))), (1, .int d)]) S.1 S.2.1 dX2_boatsOutOn_27 hl (k := 1) rfl (rfl) (by decide) rfl (fun ls hl => ?_)
          refine lv_iinc (v := (nI (n + 1))) (lv' := [(3, .int (nI (n + 1))), (2, .int ((L_X2_boatsOutOn_4 backB d n) + 1)), (0, .ref (α (k))), (1, .int d)]) S.1 S.2.1 dX2_boatsOutOn_30 hl (k := 1) rfl ((nI_succ n).symm) (by decide) rfl (fun ls hl => ?_)
          refine lv_goto (tgt := 4) S.1 S.2.1 dX2_boatsOutOn_33 (by decide) ?_
          have hL : (L_X2_boatsOutOn_4 backB d (n + 1)) = ((L_X2_boatsOutOn_4 backB d n) + 1) := (iter_s _ _ _).trans ((cd_t c3).trans (if_neg c4))
          refine ih (n + 1) (by omega) _ _ hS ?_
          rw [hL]; exact lv_sub hl [0, 1, 2, 3] rfl
  have hL0 : (L_X2_boatsOutOn_4 backB d 0) = 0 := iter_z _ _
  exact lp4 6 0 (Nat.zero_add _) _ _ hS (by rw [hL0]; exact lv_sub hl [0, 1, 2, 3] rfl)
def L_X2_peopleAtSea_4 (seaO : Nat → Int32) : Nat → Int32 := iter_ (fun n sn => (bif (f_X2_isAtSea seaO (nI n)) then (sn + 1) else sn)) 0
def f_X2_peopleAtSea (seaO : Nat → Int32) : Int32 := (L_X2_peopleAtSea_4 seaO 20)
set_option maxHeartbeats 4000000 in
set_option maxRecDepth 100000 in
theorem c_X2_peopleAtSea (l : Launch) (D : va_G) (A : Nat → Prop) (w : va_W) (α : Nat → Nat) (k : Nat) (boatO : Nat → Int32) (seaO : Nat → Int32) (faultO : Nat → Int32) (daysO : Nat → Int32) (backB : Nat → Int32) (sailB : Nat → Int32) (hB0 : Blk w k (cFleet D α k boatO seaO faultO daysO backB sailB)) : Met l yX2_peopleAtSea (ws_ yX2_peopleAtSea cX2_peopleAtSea 3 (some .int)) ({ frames := 2, cells := 0, slots := 0, locals := 43 }) (gPre D A [.ref (α (k))] w) (gR (some (.int (f_X2_peopleAtSea seaO)))) 0 0 A := by
  refine g_met [(0, .ref (α (k)))] (plainFor_of_name (by decide)) (Nat.le_of_ble_eq_true rfl) rfl (fun pg en s mi ar below me co ls S hK hP hD hE hS hr hlk hnm hl => ?_)
  refine lv_iconst (v := 0) S.1 S.2.1 dX2_peopleAtSea_0 (by decide) ?_
  refine lv_istore_n (lv' := [(1, .int 0), (0, .ref (α (k)))]) S.1 S.2.1 dX2_peopleAtSea_1 rfl hl (by decide) rfl (fun ls hl => ?_)
  refine lv_iconst (v := 0) S.1 S.2.1 dX2_peopleAtSea_2 (by decide) ?_
  refine lv_istore_n (lv' := [(2, .int 0), (1, .int 0), (0, .ref (α (k)))]) S.1 S.2.1 dX2_peopleAtSea_3 rfl hl (by decide) rfl (fun ls hl => ?_)
  have lp4 : ∀ (j n : Nat), n + j = 20 → ∀ (locs : List Loc) (ls : Array Slot), va_S A s.heap s.heap locs → lv_has ls 3 [(2, .int (nI n)), (1, .int (L_X2_peopleAtSea_4 seaO n)), (0, .ref (α (k)))] → W pg l en ({ frames := 2, cells := 0, slots := 0, locals := 43 } : Room) s mi ar below me co s.heap locs 0 0 (MQ below (gR (some (.int (f_X2_peopleAtSea seaO)))) ar s 0 0 A) (F0 mi 4 ls []) := by
    intro j
    induction j with
    | zero =>
      intro n hn locs ls hS hl
      have hn : 20 = n := hn.symm
      subst hn
      refine lv_iload_n S.1 S.2.1 dX2_peopleAtSea_4 rfl (lv_at hl 0 rfl) ?_
      refine lv_bipush (v := 20) S.1 S.2.1 dX2_peopleAtSea_5 (by decide) ?_
      refine lv_icmp_ge (tgt := 27) S.1 S.2.1 dX2_peopleAtSea_7 (by decide) (fun (c1 : 20 ≤ (nI 20)) => ?_) (fun (c1 : ¬ 20 ≤ (nI 20)) => absurd c1 (lp_out (s := 0) (by decide)))
      refine lv_iload_n S.1 S.2.1 dX2_peopleAtSea_27 rfl (lv_at hl 1 rfl) ?_
      have hf : (f_X2_peopleAtSea seaO) = (L_X2_peopleAtSea_4 seaO 20) := rfl
      exact g_iretR S hr hlk hS (by rw [hf] <;> rfl) dX2_peopleAtSea_28
    | succ j ih =>
      intro n hn locs ls hS hl
      refine lv_iload_n S.1 S.2.1 dX2_peopleAtSea_4 rfl (lv_at hl 0 rfl) ?_
      refine lv_bipush (v := 20) S.1 S.2.1 dX2_peopleAtSea_5 (by decide) ?_
      refine lv_icmp_ge (tgt := 27) S.1 S.2.1 dX2_peopleAtSea_7 (by decide) (fun (c2 : 20 ≤ (nI n)) => absurd c2 (lp_in (s := 0) (by decide) hn)) (fun (c2 : ¬ 20 ≤ (nI n)) => ?_)
      refine lv_aload_n S.1 S.2.1 dX2_peopleAtSea_10 rfl (lv_at hl 2 rfl) ?_
      refine lv_iload_n S.1 S.2.1 dX2_peopleAtSea_11 rfl (lv_at hl 0 rfl) ?_
      refine g_aftR0 (st1 := [.int (b2i (f_X2_isAtSea seaO (nI n)))]) (g_V (As := [.int (nI n)]) (rest := []) S mi_X2_isAtSea qw754 (c_X2_isAtSea l D A w α (k) boatO seaO faultO daysO backB sailB (nI n) hB0) hK hP hD hE hS (hB0 0 _ rfl) rfl rfl rfl hl.1 (Nat.le_of_ble_eq_true rfl) rfl rfl ⟨(Nat.le_of_ble_eq_true rfl), (Nat.le_of_ble_eq_true rfl)⟩ ⟨(Nat.le_of_ble_eq_true rfl), (Nat.le_of_ble_eq_true rfl)⟩ dX2_peopleAtSea_12) hS rfl (fun locs hS => ?_)
      refine g_bifeq (b := (f_X2_isAtSea seaO (nI n))) (tgt := 21) S dX2_peopleAtSea_15 (by decide) (fun (c3 : (f_X2_isAtSea seaO (nI n)) = false) => ?_) (fun (c3 : (f_X2_isAtSea seaO (nI n)) = true) => ?_)
      · refine lv_iinc (v := (nI (n + 1))) (lv' := [(2, .int (nI (n + 1))), (1, .int (L_X2_peopleAtSea_4 seaO n)), (0, .ref (α (k)))]) S.1 S.2.1 dX2_peopleAtSea_21 hl (k := 0) rfl ((nI_succ n).symm) (by decide) rfl (fun ls hl => ?_)
        refine lv_goto (tgt := 4) S.1 S.2.1 dX2_peopleAtSea_24 (by decide) ?_
        have hL : (L_X2_peopleAtSea_4 seaO (n + 1)) = (L_X2_peopleAtSea_4 seaO n) := (iter_s _ _ _).trans (cd_f c3)
        refine ih (n + 1) (by omega) _ _ hS ?_
        rw [hL]; exact lv_sub hl [0, 1, 2] rfl
      · refine lv_iinc (v := ((L_X2_peopleAtSea_4 seaO n) + 1)) (lv' := [(1, .int ((L_X2_peopleAtSea_4 seaO n) + 1)), (2, .int (nI n)), (0, .ref (α (k)))]) S.1 S.2.1 dX2_peopleAtSea_18 hl (k := 1) rfl (rfl) (by decide) rfl (fun ls hl => ?_)
        refine lv_iinc (v := (nI (n + 1))) (lv' := [(2, .int (nI (n + 1))), (1, .int ((L_X2_peopleAtSea_4 seaO n) + 1)), (0, .ref (α (k)))]) S.1 S.2.1 dX2_peopleAtSea_21 hl (k := 1) rfl ((nI_succ n).symm) (by decide) rfl (fun ls hl => ?_)
        refine lv_goto (tgt := 4) S.1 S.2.1 dX2_peopleAtSea_24 (by decide) ?_
        have hL : (L_X2_peopleAtSea_4 seaO (n + 1)) = ((L_X2_peopleAtSea_4 seaO n) + 1) := (iter_s _ _ _).trans (cd_t c3)
        refine ih (n + 1) (by omega) _ _ hS ?_
        rw [hL]; exact lv_sub hl [0, 1, 2] rfl
  have hL0 : (L_X2_peopleAtSea_4 seaO 0) = 0 := iter_z _ _
  exact lp4 20 0 (Nat.zero_add _) _ _ hS (by rw [hL0]; exact lv_sub hl [0, 1, 2] rfl)
def L_X2_peopleAtSeaOn_4 (boatO : Nat → Int32) (seaO : Nat → Int32) (backB : Nat → Int32) (d : Int32) : Nat → Int32 := iter_ (fun n sn => (bif (f_X2_isAtSea seaO (nI n)) then (if (f_X2_backOf backB (f_X2_boatOf boatO (nI n))) ≤ d then sn else (sn + 1)) else sn)) 0
def f_X2_peopleAtSeaOn (boatO : Nat → Int32) (seaO : Nat → Int32) (backB : Nat → Int32) (d : Int32) : Int32 := (L_X2_peopleAtSeaOn_4 boatO seaO backB d 20)
set_option maxHeartbeats 4000000 in
set_option maxRecDepth 100000 in
theorem c_X2_peopleAtSeaOn (l : Launch) (D : va_G) (A : Nat → Prop) (w : va_W) (α : Nat → Nat) (k : Nat) (boatO : Nat → Int32) (seaO : Nat → Int32) (faultO : Nat → Int32) (daysO : Nat → Int32) (backB : Nat → Int32) (sailB : Nat → Int32) (d : Int32) (hB0 : Blk w k (cFleet D α k boatO seaO faultO daysO backB sailB)) : Met l yX2_peopleAtSeaOn (ws_ yX2_peopleAtSeaOn cX2_peopleAtSeaOn 4 (some .int)) ({ frames := 2, cells := 0, slots := 0, locals := 43 }) (gPre D A [.ref (α (k)), .int d] w) (gR (some (.int (f_X2_peopleAtSeaOn boatO seaO backB d)))) 0 0 A := by
  refine g_met [(0, .ref (α (k))), (1, .int d)] (plainFor_of_name (by decide)) (Nat.le_of_ble_eq_true rfl) rfl (fun pg en s mi ar below me co ls S hK hP hD hE hS hr hlk hnm hl => ?_)
  refine lv_iconst (v := 0) S.1 S.2.1 dX2_peopleAtSeaOn_0 (by decide) ?_
  refine lv_istore_n (lv' := [(2, .int 0), (0, .ref (α (k))), (1, .int d)]) S.1 S.2.1 dX2_peopleAtSeaOn_1 rfl hl (by decide) rfl (fun ls hl => ?_)
  refine lv_iconst (v := 0) S.1 S.2.1 dX2_peopleAtSeaOn_2 (by decide) ?_
  refine lv_istore_n (lv' := [(3, .int 0), (2, .int 0), (0, .ref (α (k))), (1, .int d)]) S.1 S.2.1 dX2_peopleAtSeaOn_3 rfl hl (by decide) rfl (fun ls hl => ?_)
  have lp4 : ∀ (j n : Nat), n + j = 20 → ∀ (locs : List Loc) (ls : Array Slot), va_S A s.heap s.heap locs → lv_has ls 4 [(3, .int (nI n)), (2, .int (L_X2_peopleAtSeaOn_4 boatO seaO backB d n)), (0, .ref (α (k))), (1, .int d)] → W pg l en ({ frames := 2, cells := 0, slots := 0, locals := 43 } : Room) s mi ar below me co s.heap locs 0 0 (MQ below (gR (some (.int (f_X2_peopleAtSeaOn boatO seaO backB d)))) ar s 0 0 A) (F0 mi 4 ls []) := by
    intro j
    induction j with
    | zero =>
      intro n hn locs ls hS hl
      have hn : 20 = n := hn.symm
      subst hn
      refine lv_iload_n S.1 S.2.1 dX2_peopleAtSeaOn_4 rfl (lv_at hl 0 rfl) ?_
      refine lv_bipush (v := 20) S.1 S.2.1 dX2_peopleAtSeaOn_5 (by decide) ?_
      refine lv_icmp_ge (tgt := 40) S.1 S.2.1 dX2_peopleAtSeaOn_7 (by decide) (fun (c1 : 20 ≤ (nI 20)) => ?_) (fun (c1 : ¬ 20 ≤ (nI 20)) => absurd c1 (lp_out (s := 0) (by decide)))
      refine lv_iload_n S.1 S.2.1 dX2_peopleAtSeaOn_40 rfl (lv_at hl 1 rfl) ?_
      have hf : (f_X2_peopleAtSeaOn boatO seaO backB d) = (L_X2_peopleAtSeaOn_4 boatO seaO backB d 20) := rfl
      exact g_iretR S hr hlk hS (by rw [hf] <;> rfl) dX2_peopleAtSeaOn_41
    | succ j ih =>
      intro n hn locs ls hS hl
      refine lv_iload_n S.1 S.2.1 dX2_peopleAtSeaOn_4 rfl (lv_at hl 0 rfl) ?_
      refine lv_bipush (v := 20) S.1 S.2.1 dX2_peopleAtSeaOn_5 (by decide) ?_
      refine lv_icmp_ge (tgt := 40) S.1 S.2.1 dX2_peopleAtSeaOn_7 (by decide) (fun (c2 : 20 ≤ (nI n)) => absurd c2 (lp_in (s := 0) (by decide) hn)) (fun (c2 : ¬ 20 ≤ (nI n)) => ?_)
      refine lv_aload_n S.1 S.2.1 dX2_peopleAtSeaOn_10 rfl (lv_at hl 2 rfl) ?_
      refine lv_iload_n S.1 S.2.1 dX2_peopleAtSeaOn_11 rfl (lv_at hl 0 rfl) ?_
      refine g_aftR0 (st1 := [.int (b2i (f_X2_isAtSea seaO (nI n)))]) (g_V (As := [.int (nI n)]) (rest := []) S mi_X2_isAtSea qw754 (c_X2_isAtSea l D A w α (k) boatO seaO faultO daysO backB sailB (nI n) hB0) hK hP hD hE hS (hB0 0 _ rfl) rfl rfl rfl hl.1 (Nat.le_of_ble_eq_true rfl) rfl rfl ⟨(Nat.le_of_ble_eq_true rfl), (Nat.le_of_ble_eq_true rfl)⟩ ⟨(Nat.le_of_ble_eq_true rfl), (Nat.le_of_ble_eq_true rfl)⟩ dX2_peopleAtSeaOn_12) hS rfl (fun locs hS => ?_)
      refine g_bifeq (b := (f_X2_isAtSea seaO (nI n))) (tgt := 34) S dX2_peopleAtSeaOn_15 (by decide) (fun (c3 : (f_X2_isAtSea seaO (nI n)) = false) => ?_) (fun (c3 : (f_X2_isAtSea seaO (nI n)) = true) => ?_)
      · refine lv_iinc (v := (nI (n + 1))) (lv' := [(3, .int (nI (n + 1))), (2, .int (L_X2_peopleAtSeaOn_4 boatO seaO backB d n)), (0, .ref (α (k))), (1, .int d)]) S.1 S.2.1 dX2_peopleAtSeaOn_34 hl (k := 0) rfl ((nI_succ n).symm) (by decide) rfl (fun ls hl => ?_)
        refine lv_goto (tgt := 4) S.1 S.2.1 dX2_peopleAtSeaOn_37 (by decide) ?_
        have hL : (L_X2_peopleAtSeaOn_4 boatO seaO backB d (n + 1)) = (L_X2_peopleAtSeaOn_4 boatO seaO backB d n) := (iter_s _ _ _).trans (cd_f c3)
        refine ih (n + 1) (by omega) _ _ hS ?_
        rw [hL]; exact lv_sub hl [0, 1, 2, 3] rfl
      · refine lv_aload_n S.1 S.2.1 dX2_peopleAtSeaOn_18 rfl (lv_at hl 2 rfl) ?_
        refine lv_aload_n S.1 S.2.1 dX2_peopleAtSeaOn_19 rfl (lv_at hl 2 rfl) ?_
        refine lv_iload_n S.1 S.2.1 dX2_peopleAtSeaOn_20 rfl (lv_at hl 0 rfl) ?_
        refine g_aftR0 (st1 := [.int (f_X2_boatOf boatO (nI n)), .ref (α (k))]) (g_V (As := [.int (nI n)]) (rest := [.ref (α (k))]) S mi_X2_boatOf qw1116 (c_X2_boatOf l D A w α (k) boatO seaO faultO daysO backB sailB (nI n) hB0) hK hP hD hE hS (hB0 0 _ rfl) rfl rfl rfl hl.1 (Nat.le_of_ble_eq_true rfl) rfl rfl ⟨(Nat.le_of_ble_eq_true rfl), (Nat.le_of_ble_eq_true rfl)⟩ ⟨(Nat.le_of_ble_eq_true rfl), (Nat.le_of_ble_eq_true rfl)⟩ dX2_peopleAtSeaOn_21) hS rfl (fun locs hS => ?_)
        refine g_aftR0 (st1 := [.int (f_X2_backOf backB (f_X2_boatOf boatO (nI n)))]) (g_V (As := [.int (f_X2_boatOf boatO (nI n))]) (rest := []) S mi_X2_backOf qw1129 (c_X2_backOf l D A w α (k) boatO seaO faultO daysO backB sailB (f_X2_boatOf boatO (nI n)) hB0) hK hP hD hE hS (hB0 0 _ rfl) rfl rfl rfl hl.1 (Nat.le_of_ble_eq_true rfl) rfl rfl ⟨(Nat.le_of_ble_eq_true rfl), (Nat.le_of_ble_eq_true rfl)⟩ ⟨(Nat.le_of_ble_eq_true rfl), (Nat.le_of_ble_eq_true rfl)⟩ dX2_peopleAtSeaOn_24) hS rfl (fun locs hS => ?_)
        refine lv_iload_n S.1 S.2.1 dX2_peopleAtSeaOn_27 rfl (lv_at hl 3 rfl) ?_
        refine lv_icmp_le (tgt := 34) S.1 S.2.1 dX2_peopleAtSeaOn_28 (by decide) (fun (c4 : (f_X2_backOf backB (f_X2_boatOf boatO (nI n))) ≤ d) => ?_) (fun (c4 : ¬ (f_X2_backOf backB (f_X2_boatOf boatO (nI n))) ≤ d) => ?_)
        · refine lv_iinc (v := (nI (n + 1))) (lv' := [(3, .int (nI (n + 1))), (2, .int (L_X2_peopleAtSeaOn_4 boatO seaO backB d n)), (0, .ref (α (k))), (1, .int d)]) S.1 S.2.1 dX2_peopleAtSeaOn_34 hl (k := 0) rfl ((nI_succ n).symm) (by decide) rfl (fun ls hl => ?_)
          refine lv_goto (tgt := 4) S.1 S.2.1 dX2_peopleAtSeaOn_37 (by decide) ?_
          have hL : (L_X2_peopleAtSeaOn_4 boatO seaO backB d (n + 1)) = (L_X2_peopleAtSeaOn_4 boatO seaO backB d n) := (iter_s _ _ _).trans ((cd_t c3).trans (if_pos c4))
          refine ih (n + 1) (by omega) _ _ hS ?_
          rw [hL]; exact lv_sub hl [0, 1, 2, 3] rfl
        · refine lv_iinc (v := ((L_X2_peopleAtSeaOn_4 boatO seaO backB d n) + 1)) (lv' := [(2, .int ((L_X2_peopleAtSeaOn_4 boatO seaO backB d n) + 1)), (3, .int (nI n)), (0, .ref (α (k))), (1, .int d)]) S.1 S.2.1 dX2_peopleAtSeaOn_31 hl (k := 1) rfl (rfl) (by decide) rfl (fun ls hl => ?_)
          refine lv_iinc (v := (nI (n + 1))) (lv' := [(3, .int (nI (n + 1))), (2, .int ((L_X2_peopleAtSeaOn_4 boatO seaO backB d n) + 1)), (0, .ref (α (k))), (1, .int d)]) S.1 S.2.1 dX2_peopleAtSeaOn_34 hl (k := 1) rfl ((nI_succ n).symm) (by decide) rfl (fun ls hl => ?_)
          refine lv_goto (tgt := 4) S.1 S.2.1 dX2_peopleAtSeaOn_37 (by decide) ?_
          have hL : (L_X2_peopleAtSeaOn_4 boatO seaO backB d (n + 1)) = ((L_X2_peopleAtSeaOn_4 boatO seaO backB d n) + 1) := (iter_s _ _ _).trans ((cd_t c3).trans (if_neg c4))
          refine ih (n + 1) (by omega) _ _ hS ?_
          rw [hL]; exact lv_sub hl [0, 1, 2, 3] rfl
  have hL0 : (L_X2_peopleAtSeaOn_4 boatO seaO backB d 0) = 0 := iter_z _ _
  exact lp4 20 0 (Nat.zero_add _) _ _ hS (by rw [hL0]; exact lv_sub hl [0, 1, 2, 3] rfl)
