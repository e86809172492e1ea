/-! A STICKVOTES as one value; a contract of each call over it -/
abbrev SuT : Type := (Nat → Int32) × (Nat → Int32) × (Nat → Int32) × (Nat → Int32) × Int32 × Int32
abbrev VT : Type := StT × SuT × (Int32 × Int32 × (Nat → StT)) × ((Nat → StT) × (Nat → Int32)) × ((Nat → Int32) × Int32) × Int32
abbrev v_day (v : VT) : Int32 := v.1.1
abbrev v_votes (v : VT) : Int32 := v.1.2.1
abbrev v_isOpen (v : VT) : Int32 := v.1.2.2.1
abbrev v_baskets (v : VT) : Int32 := v.1.2.2.2.1
abbrev v_lays (v : VT) : Int32 := v.1.2.2.2.2.1
abbrev v_recs (v : VT) : Int32 := v.1.2.2.2.2.2.1
abbrev v_fneed (v : VT) : Int32 := v.1.2.2.2.2.2.2.1
abbrev v_clos (v : VT) : Int32 := v.1.2.2.2.2.2.2.2.1
abbrev v_boatO (v : VT) : Nat → Int32 := v.1.2.2.2.2.2.2.2.2.1
abbrev v_seaO (v : VT) : Nat → Int32 := v.1.2.2.2.2.2.2.2.2.2.1
abbrev v_faultO (v : VT) : Nat → Int32 := v.1.2.2.2.2.2.2.2.2.2.2.1
abbrev v_daysO (v : VT) : Nat → Int32 := v.1.2.2.2.2.2.2.2.2.2.2.2.1
abbrev v_backB (v : VT) : Nat → Int32 := v.1.2.2.2.2.2.2.2.2.2.2.2.2.1
abbrev v_sailB (v : VT) : Nat → Int32 := v.1.2.2.2.2.2.2.2.2.2.2.2.2.2.1
abbrev v_plc (v : VT) : Nat → Int32 := v.1.2.2.2.2.2.2.2.2.2.2.2.2.2.2.1
abbrev v_car (v : VT) : Nat → Int32 := v.1.2.2.2.2.2.2.2.2.2.2.2.2.2.2.2.1
abbrev v_bnd (v : VT) : Nat → Int32 := v.1.2.2.2.2.2.2.2.2.2.2.2.2.2.2.2.2.1
abbrev v_bsk (v : VT) : Nat → Int32 := v.1.2.2.2.2.2.2.2.2.2.2.2.2.2.2.2.2.2.1
abbrev v_dyL (v : VT) : Nat → Int32 := v.1.2.2.2.2.2.2.2.2.2.2.2.2.2.2.2.2.2.2.1
abbrev v_rsn (v : VT) : Nat → Int32 := v.1.2.2.2.2.2.2.2.2.2.2.2.2.2.2.2.2.2.2.2.1
abbrev v_pastF (v : VT) : Nat → Int32 := v.1.2.2.2.2.2.2.2.2.2.2.2.2.2.2.2.2.2.2.2.2.1
abbrev v_pastN (v : VT) : Int32 := v.1.2.2.2.2.2.2.2.2.2.2.2.2.2.2.2.2.2.2.2.2.2.1
abbrev v_logF (v : VT) : Nat → Int32 := v.1.2.2.2.2.2.2.2.2.2.2.2.2.2.2.2.2.2.2.2.2.2.2.1
abbrev v_logN (v : VT) : Int32 := v.1.2.2.2.2.2.2.2.2.2.2.2.2.2.2.2.2.2.2.2.2.2.2.2
abbrev v_nums (v : VT) : Nat → Int32 := v.2.1.1
abbrev v_bNames (v : VT) : Nat → Int32 := v.2.1.2.1
abbrev v_pNames (v : VT) : Nat → Int32 := v.2.1.2.2.1
abbrev v_fBoats (v : VT) : Nat → Int32 := v.2.1.2.2.2.1
abbrev v_nB (v : VT) : Int32 := v.2.1.2.2.2.2.1
abbrev v_nP (v : VT) : Int32 := v.2.1.2.2.2.2.2
abbrev v_hsN (v : VT) : Int32 := v.2.2.1.1
abbrev v_hsX (v : VT) : Int32 := v.2.2.1.2.1
abbrev v_hsF (v : VT) : Nat → StT := v.2.2.1.2.2
abbrev v_kpF (v : VT) : Nat → StT := v.2.2.2.1.1
abbrev v_kpZ (v : VT) : Nat → Int32 := v.2.2.2.1.2
abbrev v_tp (v : VT) : Nat → Int32 := v.2.2.2.2.1.1
abbrev v_tl (v : VT) : Int32 := v.2.2.2.2.1.2
abbrev v_err (v : VT) : Int32 := v.2.2.2.2.2
/-- the object lies in the world w; what its calls use and forget is hidden -/
def OB (D : va_G) (α : Nat → Nat) (w : va_W) (v : VT) : Prop := ∃ (pk : Int32) (pst : Int32) (pe : Int32) (dnums : Nat → Int32) (dbNames : Nat → Int32) (dpNames : Nat → Int32) (dfBoats : Nat → Int32) (dnB : Int32) (dnP : Int32) (blB : Nat → Int32) (blC : Nat → Int32) (tx : Nat → Int32) (txl : Int32), SVW D α w (v_err v) pk pst pe (v_tp v) (v_tl v) dnums dbNames dpNames dfBoats dnB dnP (v_nums v) (v_bNames v) (v_pNames v) (v_fBoats v) (v_nB v) (v_nP v) (v_day v) (v_votes v) (v_isOpen v) (v_baskets v) (v_lays v) (v_recs v) (v_fneed v) (v_clos v) (v_boatO v) (v_seaO v) (v_faultO v) (v_daysO v) (v_backB v) (v_sailB v) (v_plc v) (v_car v) (v_bnd v) (v_bsk v) (v_dyL v) (v_rsn v) (v_pastF v) (v_pastN v) (v_logF v) (v_logN v) blB blC (v_hsN v) (v_hsX v) (v_hsF v) (v_kpF v) (v_kpZ v) tx txl ∧ ¬ txl < 0
/-- what holds of its state after N calls: P people, B boats -/
def RA (N P B Q : Nat) (v : VT) : Prop := ∃ (mTaped : Int32) (mErr : Int32) (mPpl : Int32) (mBts : Int32) (mUs : Int32) (mTape : Nat → Int32) (mNum : Nat → Int32) (mNam : Nat → Int32) (mFst : Nat → Int32) (mBnm : Nat → Int32) (mW : Nat → Int32) (mUn : Nat → Int32) (mSl : Nat → Int32) (mKp : Nat → Int32), RALL N P B Q (v_nums v) (v_bNames v) (v_pNames v) (v_fBoats v) (v_nB v) (v_nP v) (v_day v) (v_votes v) (v_isOpen v) (v_baskets v) (v_lays v) (v_recs v) (v_fneed v) (v_clos v) (v_boatO v) (v_seaO v) (v_faultO v) (v_daysO v) (v_backB v) (v_sailB v) (v_plc v) (v_car v) (v_bnd v) (v_bsk v) (v_dyL v) (v_rsn v) (v_pastF v) (v_pastN v) (v_logF v) (v_logN v) (v_hsN v) (v_hsX v) (v_hsF v) (v_kpF v) (v_kpZ v) (v_tp v) (v_tl v) (v_err v) 0 mTaped mErr mPpl mBts mUs mTape mNum mNam mFst mBnm mW mUn mSl mKp
theorem SVW.agree {D : va_G} {α : Nat → Nat} {w w' : va_W} {err : Int32} {pk : Int32} {pst : Int32} {pe : Int32} {tp : Nat → Int32} {tl : Int32} {dnums : Nat → Int32} {dbNames : Nat → Int32} {dpNames : Nat → Int32} {dfBoats : Nat → Int32} {dnB : Int32} {dnP : Int32} {nums : Nat → Int32} {bNames : Nat → Int32} {pNames : Nat → Int32} {fBoats : Nat → Int32} {nB : Int32} {nP : Int32} {day : Int32} {votes : Int32} {isOpen : Int32} {baskets : Int32} {lays : Int32} {recs : Int32} {fneed : Int32} {clos : Int32} {boatO : Nat → Int32} {seaO : Nat → Int32} {faultO : Nat → Int32} {daysO : Nat → Int32} {backB : Nat → Int32} {sailB : Nat → Int32} {plc : Nat → Int32} {car : Nat → Int32} {bnd : Nat → Int32} {bsk : Nat → Int32} {dyL : Nat → Int32} {rsn : Nat → Int32} {pastF : Nat → Int32} {pastN : Int32} {logF : Nat → Int32} {logN : Int32} {blB : Nat → Int32} {blC : Nat → Int32} {hsN : Int32} {hsX : Int32} {hsF : Nat → StT} {kpF : Nat → StT} {kpZ : Nat → Int32} {tx : Nat → Int32} {txl : Int32} (h : SVW D α w err pk pst pe tp tl dnums dbNames dpNames dfBoats dnB dnP nums bNames pNames fBoats nB nP day votes isOpen baskets lays recs fneed clos boatO seaO faultO daysO backB sailB plc car bnd bsk dyL rsn pastF pastN logF logN blB blC hsN hsX hsF kpF kpZ tx txl) (hs : ∀ j : Nat, j < 234 → w'[j]? = w[j]?) : SVW D α w' err pk pst pe tp tl dnums dbNames dpNames dfBoats dnB dnP nums bNames pNames fBoats nB nP day votes isOpen baskets lays recs fneed clos boatO seaO faultO daysO backB sailB plc car bnd bsk dyL rsn pastF pastN logF logN blB blC hsN hsX hsF kpF kpZ tx txl := by
  obtain ⟨h0, h1, h2, h3, h4, h5, h6, h7⟩ := h
  refine ⟨h0.other2 (fun j _ hj => hs j (Nat.lt_of_lt_of_le hj (Nat.le_of_ble_eq_true rfl))), h1.other2 (fun j _ hj => hs j (Nat.lt_of_lt_of_le hj (Nat.le_of_ble_eq_true rfl))), h2.other2 (fun j _ hj => hs j (Nat.lt_of_lt_of_le hj (Nat.le_of_ble_eq_true rfl))), ⟨h3.1.other2 (fun j _ hj => hs j (Nat.lt_of_lt_of_le hj (Nat.le_of_ble_eq_true rfl))), fun i hi => (h3.2 i hi).other2 (fun j _ hj => hs j ?_)⟩, (hs 191 (by decide)).trans h4, fun i hi => (h5 i hi).other2 (fun j _ hj => hs j ?_), h6.other2 (fun j _ hj => hs j (Nat.lt_of_lt_of_le hj (Nat.le_of_ble_eq_true rfl))), h7.other2 (fun j _ hj => hs j (Nat.lt_of_lt_of_le hj (Nat.le_of_ble_eq_true rfl)))⟩
  · rw [cSt_len] at hj; omega
  · rw [cSt_len] at hj; omega
theorem OB.recv {D : va_G} {α : Nat → Nat} {s : State} {H : Heap} {w : va_W} {v : VT} (hB : OB D α w v) (hK : va_K D vwCl (gTys D) s) (hP : va_P D vwCl w H) : ∃ cell : Cell, H[α 0]? = some cell ∧ cell.vm.isStatics = false ∧ s.vm.findClass RX11 = some cell.cls := by
  obtain ⟨pk, pst, pe, dnums, dbNames, dpNames, dfBoats, dnB, dnP, blB, blC, tx, txl, hV, h0⟩ := hB
  exact va_recv hK hP (rfl : vwCl[11]? = some (RX11, TX11, 10)) (hV.1 0 _ rfl)
theorem OB.agree {D : va_G} {α : Nat → Nat} {w w1 : va_W} {v : VT} (h : OB D α w v) (hs : ∀ j : Nat, j < 234 → w1[j]? = w[j]?) : OB D α w1 v := by
  obtain ⟨pk, pst, pe, dnums, dbNames, dpNames, dfBoats, dnB, dnP, blB, blC, tx, txl, hV, h0⟩ := h
  exact ⟨pk, pst, pe, dnums, dbNames, dpNames, dfBoats, dnB, dnP, blB, blC, tx, txl, SVW.agree hV hs, h0⟩
noncomputable def a_errorPosition (v : VT)  : Int32 := (f_X11_errorPosition (v_err v))
set_option maxHeartbeats 4000000 in
theorem k_errorPosition (l : Launch) (D : va_G) (A : Nat → Prop) (w : va_W) (α : Nat → Nat) {v : VT}  (hB : OB D α w v) : Met l yX11_errorPosition (ws_ yX11_errorPosition cX11_errorPosition 1 (some .int)) ({ frames := 0, cells := 0, slots := 0, locals := 0 }) (gPre D A [.ref (α (0))] w) (gR (some (.int (a_errorPosition v )))) 0 0 A := by
  obtain ⟨pk, pst, pe, dnums, dbNames, dpNames, dfBoats, dnB, dnP, blB, blC, tx, txl, hV, h0⟩ := hB
  exact c_X11_errorPosition l D A w α (v_err v) pk pst pe (v_tp v) (v_tl v) dnums dbNames dpNames dfBoats dnB dnP (v_nums v) (v_bNames v) (v_pNames v) (v_fBoats v) (v_nB v) (v_nP v) (v_day v) (v_votes v) (v_isOpen v) (v_baskets v) (v_lays v) (v_recs v) (v_fneed v) (v_clos v) (v_boatO v) (v_seaO v) (v_faultO v) (v_daysO v) (v_backB v) (v_sailB v) (v_plc v) (v_car v) (v_bnd v) (v_bsk v) (v_dyL v) (v_rsn v) (v_pastF v) (v_pastN v) (v_logF v) (v_logN v) blB blC (v_hsN v) (v_hsX v) (v_hsF v) (v_kpF v) (v_kpZ v) tx txl hV
noncomputable def a_tapeLength (v : VT)  : Int32 := (f_X11_tapeLength (v_tl v))
set_option maxHeartbeats 4000000 in
theorem k_tapeLength (l : Launch) (D : va_G) (A : Nat → Prop) (w : va_W) (α : Nat → Nat) {v : VT}  (hB : OB D α w v) : Met l yX11_tapeLength (ws_ yX11_tapeLength cX11_tapeLength 1 (some .int)) ({ frames := 1, cells := 0, slots := 0, locals := 20 }) (gPre D A [.ref (α (0))] w) (gR (some (.int (a_tapeLength v )))) 0 0 A := by
  obtain ⟨pk, pst, pe, dnums, dbNames, dpNames, dfBoats, dnB, dnP, blB, blC, tx, txl, hV, h0⟩ := hB
  exact c_X11_tapeLength l D A w α (v_err v) pk pst pe (v_tp v) (v_tl v) dnums dbNames dpNames dfBoats dnB dnP (v_nums v) (v_bNames v) (v_pNames v) (v_fBoats v) (v_nB v) (v_nP v) (v_day v) (v_votes v) (v_isOpen v) (v_baskets v) (v_lays v) (v_recs v) (v_fneed v) (v_clos v) (v_boatO v) (v_seaO v) (v_faultO v) (v_daysO v) (v_backB v) (v_sailB v) (v_plc v) (v_car v) (v_bnd v) (v_bsk v) (v_dyL v) (v_rsn v) (v_pastF v) (v_pastN v) (v_logF v) (v_logN v) blB blC (v_hsN v) (v_hsX v) (v_hsF v) (v_kpF v) (v_kpZ v) tx txl hV
noncomputable def a_person (v : VT) (x : Int32) (y : Int32) : Int32 := (f_X11_person (v_nP v) (v_day v) (v_boatO v) (v_seaO v) (v_faultO v) (v_daysO v) (v_backB v) (v_plc v) (v_car v) x y)
set_option maxHeartbeats 4000000 in
theorem k_person (l : Launch) (D : va_G) (A : Nat → Prop) (w : va_W) (α : Nat → Nat) {v : VT} (x : Int32) (y : Int32) (hB : OB D α w v) : Met l yX11_person (ws_ yX11_person cX11_person 3 (some .int)) ({ frames := 3, cells := 0, slots := 0, locals := 67 }) (gPre D A [.ref (α (0)), .int x, .int y] w) (gR (some (.int (a_person v x y)))) 0 0 A := by
  obtain ⟨pk, pst, pe, dnums, dbNames, dpNames, dfBoats, dnB, dnP, blB, blC, tx, txl, hV, h0⟩ := hB
  exact c_X11_person l D A w α (v_err v) pk pst pe (v_tp v) (v_tl v) dnums dbNames dpNames dfBoats dnB dnP (v_nums v) (v_bNames v) (v_pNames v) (v_fBoats v) (v_nB v) (v_nP v) (v_day v) (v_votes v) (v_isOpen v) (v_baskets v) (v_lays v) (v_recs v) (v_fneed v) (v_clos v) (v_boatO v) (v_seaO v) (v_faultO v) (v_daysO v) (v_backB v) (v_sailB v) (v_plc v) (v_car v) (v_bnd v) (v_bsk v) (v_dyL v) (v_rsn v) (v_pastF v) (v_pastN v) (v_logF v) (v_logN v) blB blC (v_hsN v) (v_hsX v) (v_hsF v) (v_kpF v) (v_kpZ v) tx txl x y hV
noncomputable def a_boat (v : VT) (x : Int32) (y : Int32) : Int32 := (f_X11_boat (v_nB v) (v_day v) (v_boatO v) (v_seaO v) (v_backB v) (v_sailB v) x y)
set_option maxHeartbeats 4000000 in
theorem k_boat (l : Launch) (D : va_G) (A : Nat → Prop) (w : va_W) (α : Nat → Nat) {v : VT} (x : Int32) (y : Int32) (hB : OB D α w v) : Met l yX11_boat (ws_ yX11_boat cX11_boat 3 (some .int)) ({ frames := 3, cells := 0, slots := 0, locals := 66 }) (gPre D A [.ref (α (0)), .int x, .int y] w) (gR (some (.int (a_boat v x y)))) 0 0 A := by
  obtain ⟨pk, pst, pe, dnums, dbNames, dpNames, dfBoats, dnB, dnP, blB, blC, tx, txl, hV, h0⟩ := hB
  exact c_X11_boat l D A w α (v_err v) pk pst pe (v_tp v) (v_tl v) dnums dbNames dpNames dfBoats dnB dnP (v_nums v) (v_bNames v) (v_pNames v) (v_fBoats v) (v_nB v) (v_nP v) (v_day v) (v_votes v) (v_isOpen v) (v_baskets v) (v_lays v) (v_recs v) (v_fneed v) (v_clos v) (v_boatO v) (v_seaO v) (v_faultO v) (v_daysO v) (v_backB v) (v_sailB v) (v_plc v) (v_car v) (v_bnd v) (v_bsk v) (v_dyL v) (v_rsn v) (v_pastF v) (v_pastN v) (v_logF v) (v_logN v) blB blC (v_hsN v) (v_hsX v) (v_hsF v) (v_kpF v) (v_kpZ v) tx txl x y hV
noncomputable def a_stick (v : VT) (x : Int32) (y : Int32) : Int32 := (f_X11_stick (v_nP v) (v_plc v) (v_car v) (v_bnd v) (v_bsk v) (v_dyL v) (v_rsn v) x y)
set_option maxHeartbeats 4000000 in
theorem k_stick (l : Launch) (D : va_G) (A : Nat → Prop) (w : va_W) (α : Nat → Nat) {v : VT} (x : Int32) (y : Int32) (hB : OB D α w v) : Met l yX11_stick (ws_ yX11_stick cX11_stick 3 (some .int)) ({ frames := 2, cells := 0, slots := 0, locals := 43 }) (gPre D A [.ref (α (0)), .int x, .int y] w) (gR (some (.int (a_stick v x y)))) 0 0 A := by
  obtain ⟨pk, pst, pe, dnums, dbNames, dpNames, dfBoats, dnB, dnP, blB, blC, tx, txl, hV, h0⟩ := hB
  exact c_X11_stick l D A w α (v_err v) pk pst pe (v_tp v) (v_tl v) dnums dbNames dpNames dfBoats dnB dnP (v_nums v) (v_bNames v) (v_pNames v) (v_fBoats v) (v_nB v) (v_nP v) (v_day v) (v_votes v) (v_isOpen v) (v_baskets v) (v_lays v) (v_recs v) (v_fneed v) (v_clos v) (v_boatO v) (v_seaO v) (v_faultO v) (v_daysO v) (v_backB v) (v_sailB v) (v_plc v) (v_car v) (v_bnd v) (v_bsk v) (v_dyL v) (v_rsn v) (v_pastF v) (v_pastN v) (v_logF v) (v_logN v) blB blC (v_hsN v) (v_hsX v) (v_hsF v) (v_kpF v) (v_kpZ v) tx txl x y hV
noncomputable def a_basket (v : VT) (x : Int32) : Int32 := (f_X11_basket (v_plc v) (v_bsk v) x)
set_option maxHeartbeats 4000000 in
theorem k_basket (l : Launch) (D : va_G) (A : Nat → Prop) (w : va_W) (α : Nat → Nat) {v : VT} (x : Int32) (hB : OB D α w v) : Met l yX11_basket (ws_ yX11_basket cX11_basket 2 (some .int)) ({ frames := 4, cells := 0, slots := 0, locals := 87 }) (gPre D A [.ref (α (0)), .int x] w) (gR (some (.int (a_basket v x)))) 0 0 A := by
  obtain ⟨pk, pst, pe, dnums, dbNames, dpNames, dfBoats, dnB, dnP, blB, blC, tx, txl, hV, h0⟩ := hB
  exact c_X11_basket l D A w α (v_err v) pk pst pe (v_tp v) (v_tl v) dnums dbNames dpNames dfBoats dnB dnP (v_nums v) (v_bNames v) (v_pNames v) (v_fBoats v) (v_nB v) (v_nP v) (v_day v) (v_votes v) (v_isOpen v) (v_baskets v) (v_lays v) (v_recs v) (v_fneed v) (v_clos v) (v_boatO v) (v_seaO v) (v_faultO v) (v_daysO v) (v_backB v) (v_sailB v) (v_plc v) (v_car v) (v_bnd v) (v_bsk v) (v_dyL v) (v_rsn v) (v_pastF v) (v_pastN v) (v_logF v) (v_logN v) blB blC (v_hsN v) (v_hsX v) (v_hsF v) (v_kpF v) (v_kpZ v) tx txl x hV
noncomputable def a_number (v : VT) (x : Int32) : Int32 := (f_X11_number (v_nums v) x)
set_option maxHeartbeats 4000000 in
theorem k_number (l : Launch) (D : va_G) (A : Nat → Prop) (w : va_W) (α : Nat → Nat) {v : VT} (x : Int32) (hB : OB D α w v) : Met l yX11_number (ws_ yX11_number cX11_number 2 (some .int)) ({ frames := 2, cells := 0, slots := 0, locals := 43 }) (gPre D A [.ref (α (0)), .int x] w) (gR (some (.int (a_number v x)))) 0 0 A := by
  obtain ⟨pk, pst, pe, dnums, dbNames, dpNames, dfBoats, dnB, dnP, blB, blC, tx, txl, hV, h0⟩ := hB
  exact c_X11_number l D A w α (v_err v) pk pst pe (v_tp v) (v_tl v) dnums dbNames dpNames dfBoats dnB dnP (v_nums v) (v_bNames v) (v_pNames v) (v_fBoats v) (v_nB v) (v_nP v) (v_day v) (v_votes v) (v_isOpen v) (v_baskets v) (v_lays v) (v_recs v) (v_fneed v) (v_clos v) (v_boatO v) (v_seaO v) (v_faultO v) (v_daysO v) (v_backB v) (v_sailB v) (v_plc v) (v_car v) (v_bnd v) (v_bsk v) (v_dyL v) (v_rsn v) (v_pastF v) (v_pastN v) (v_logF v) (v_logN v) blB blC (v_hsN v) (v_hsX v) (v_hsF v) (v_kpF v) (v_kpZ v) tx txl x hV
noncomputable def a_past (v : VT) (x : Int32) (y : Int32) : Int32 := (f_X11_past (v_pastF v) (v_pastN v) x y)
set_option maxHeartbeats 4000000 in
theorem k_past (l : Launch) (D : va_G) (A : Nat → Prop) (w : va_W) (α : Nat → Nat) {v : VT} (x : Int32) (y : Int32) (hB : OB D α w v) : Met l yX11_past (ws_ yX11_past cX11_past 3 (some .int)) ({ frames := 4, cells := 0, slots := 0, locals := 76 }) (gPre D A [.ref (α (0)), .int x, .int y] w) (gR (some (.int (a_past v x y)))) 0 0 A := by
  obtain ⟨pk, pst, pe, dnums, dbNames, dpNames, dfBoats, dnB, dnP, blB, blC, tx, txl, hV, h0⟩ := hB
  exact c_X11_past l D A w α (v_err v) pk pst pe (v_tp v) (v_tl v) dnums dbNames dpNames dfBoats dnB dnP (v_nums v) (v_bNames v) (v_pNames v) (v_fBoats v) (v_nB v) (v_nP v) (v_day v) (v_votes v) (v_isOpen v) (v_baskets v) (v_lays v) (v_recs v) (v_fneed v) (v_clos v) (v_boatO v) (v_seaO v) (v_faultO v) (v_daysO v) (v_backB v) (v_sailB v) (v_plc v) (v_car v) (v_bnd v) (v_bsk v) (v_dyL v) (v_rsn v) (v_pastF v) (v_pastN v) (v_logF v) (v_logN v) blB blC (v_hsN v) (v_hsX v) (v_hsF v) (v_kpF v) (v_kpZ v) tx txl x y hV
noncomputable def a_owners (v : VT) (x : Int32) : Int32 := (f_X11_owners (v_plc v) (v_bsk v) x)
set_option maxHeartbeats 4000000 in
theorem k_owners (l : Launch) (D : va_G) (A : Nat → Prop) (w : va_W) (α : Nat → Nat) {v : VT} (x : Int32) (hB : OB D α w v) : Met l yX11_owners (ws_ yX11_owners cX11_owners 2 (some .int)) ({ frames := 3, cells := 0, slots := 0, locals := 66 }) (gPre D A [.ref (α (0)), .int x] w) (gR (some (.int (a_owners v x)))) 0 0 A := by
  obtain ⟨pk, pst, pe, dnums, dbNames, dpNames, dfBoats, dnB, dnP, blB, blC, tx, txl, hV, h0⟩ := hB
  exact c_X11_owners l D A w α (v_err v) pk pst pe (v_tp v) (v_tl v) dnums dbNames dpNames dfBoats dnB dnP (v_nums v) (v_bNames v) (v_pNames v) (v_fBoats v) (v_nB v) (v_nP v) (v_day v) (v_votes v) (v_isOpen v) (v_baskets v) (v_lays v) (v_recs v) (v_fneed v) (v_clos v) (v_boatO v) (v_seaO v) (v_faultO v) (v_daysO v) (v_backB v) (v_sailB v) (v_plc v) (v_car v) (v_bnd v) (v_bsk v) (v_dyL v) (v_rsn v) (v_pastF v) (v_pastN v) (v_logF v) (v_logN v) blB blC (v_hsN v) (v_hsX v) (v_hsF v) (v_kpF v) (v_kpZ v) tx txl x hV
noncomputable def a_carries (v : VT) (x : Int32) : Int32 := (f_X11_carries (v_nP v) (v_plc v) (v_car v) x)
set_option maxHeartbeats 4000000 in
theorem k_carries (l : Launch) (D : va_G) (A : Nat → Prop) (w : va_W) (α : Nat → Nat) {v : VT} (x : Int32) (hB : OB D α w v) : Met l yX11_carries (ws_ yX11_carries cX11_carries 2 (some .int)) ({ frames := 3, cells := 0, slots := 0, locals := 66 }) (gPre D A [.ref (α (0)), .int x] w) (gR (some (.int (a_carries v x)))) 0 0 A := by
  obtain ⟨pk, pst, pe, dnums, dbNames, dpNames, dfBoats, dnB, dnP, blB, blC, tx, txl, hV, h0⟩ := hB
  exact c_X11_carries l D A w α (v_err v) pk pst pe (v_tp v) (v_tl v) dnums dbNames dpNames dfBoats dnB dnP (v_nums v) (v_bNames v) (v_pNames v) (v_fBoats v) (v_nB v) (v_nP v) (v_day v) (v_votes v) (v_isOpen v) (v_baskets v) (v_lays v) (v_recs v) (v_fneed v) (v_clos v) (v_boatO v) (v_seaO v) (v_faultO v) (v_daysO v) (v_backB v) (v_sailB v) (v_plc v) (v_car v) (v_bnd v) (v_bsk v) (v_dyL v) (v_rsn v) (v_pastF v) (v_pastN v) (v_logF v) (v_logN v) blB blC (v_hsN v) (v_hsX v) (v_hsF v) (v_kpF v) (v_kpZ v) tx txl x hV
noncomputable def a_wrongOnes (v : VT)  : Int32 := (f_X11_wrongOnes (v_plc v) (v_rsn v))
set_option maxHeartbeats 4000000 in
theorem k_wrongOnes (l : Launch) (D : va_G) (A : Nat → Prop) (w : va_W) (α : Nat → Nat) {v : VT}  (hB : OB D α w v) : Met l yX11_wrongOnes (ws_ yX11_wrongOnes cX11_wrongOnes 1 (some .int)) ({ frames := 4, cells := 0, slots := 0, locals := 86 }) (gPre D A [.ref (α (0))] w) (gR (some (.int (a_wrongOnes v )))) 0 0 A := by
  obtain ⟨pk, pst, pe, dnums, dbNames, dpNames, dfBoats, dnB, dnP, blB, blC, tx, txl, hV, h0⟩ := hB
  exact c_X11_wrongOnes l D A w α (v_err v) pk pst pe (v_tp v) (v_tl v) dnums dbNames dpNames dfBoats dnB dnP (v_nums v) (v_bNames v) (v_pNames v) (v_fBoats v) (v_nB v) (v_nP v) (v_day v) (v_votes v) (v_isOpen v) (v_baskets v) (v_lays v) (v_recs v) (v_fneed v) (v_clos v) (v_boatO v) (v_seaO v) (v_faultO v) (v_daysO v) (v_backB v) (v_sailB v) (v_plc v) (v_car v) (v_bnd v) (v_bsk v) (v_dyL v) (v_rsn v) (v_pastF v) (v_pastN v) (v_logF v) (v_logN v) blB blC (v_hsN v) (v_hsX v) (v_hsF v) (v_kpF v) (v_kpZ v) tx txl hV
noncomputable def a_why (v : VT) (x : Int32) (y : Int32) (z : Int32) : Int32 := (f_X11_why (v_nums v) (v_nP v) (v_isOpen v) (v_baskets v) (v_seaO v) (v_plc v) (v_car v) (v_bnd v) x y z)
set_option maxHeartbeats 4000000 in
theorem k_why (l : Launch) (D : va_G) (A : Nat → Prop) (w : va_W) (α : Nat → Nat) {v : VT} (x : Int32) (y : Int32) (z : Int32) (hB : OB D α w v) : Met l yX11_why (ws_ yX11_why cX11_why 5 (some .int)) ({ frames := 4, cells := 0, slots := 0, locals := 91 }) (gPre D A [.ref (α (0)), .int x, .int y, .int z] w) (gR (some (.int (a_why v x y z)))) 0 0 A := by
  obtain ⟨pk, pst, pe, dnums, dbNames, dpNames, dfBoats, dnB, dnP, blB, blC, tx, txl, hV, h0⟩ := hB
  exact c_X11_why l D A w α (v_err v) pk pst pe (v_tp v) (v_tl v) dnums dbNames dpNames dfBoats dnB dnP (v_nums v) (v_bNames v) (v_pNames v) (v_fBoats v) (v_nB v) (v_nP v) (v_day v) (v_votes v) (v_isOpen v) (v_baskets v) (v_lays v) (v_recs v) (v_fneed v) (v_clos v) (v_boatO v) (v_seaO v) (v_faultO v) (v_daysO v) (v_backB v) (v_sailB v) (v_plc v) (v_car v) (v_bnd v) (v_bsk v) (v_dyL v) (v_rsn v) (v_pastF v) (v_pastN v) (v_logF v) (v_logN v) blB blC (v_hsN v) (v_hsX v) (v_hsF v) (v_kpF v) (v_kpZ v) tx txl x y z hV
noncomputable def a_needIfHome (v : VT) (x : Int32) : Int32 := (f_X11_needIfHome (v_nums v) (v_nB v) (v_nP v) (v_day v) (v_backB v) x)
set_option maxHeartbeats 4000000 in
theorem k_needIfHome (l : Launch) (D : va_G) (A : Nat → Prop) (w : va_W) (α : Nat → Nat) {v : VT} (x : Int32) (hB : OB D α w v) : Met l yX11_needIfHome (ws_ yX11_needIfHome cX11_needIfHome 2 (some .int)) ({ frames := 4, cells := 0, slots := 0, locals := 89 }) (gPre D A [.ref (α (0)), .int x] w) (gR (some (.int (a_needIfHome v x)))) 0 0 A := by
  obtain ⟨pk, pst, pe, dnums, dbNames, dpNames, dfBoats, dnB, dnP, blB, blC, tx, txl, hV, h0⟩ := hB
  exact c_X11_needIfHome l D A w α (v_err v) pk pst pe (v_tp v) (v_tl v) dnums dbNames dpNames dfBoats dnB dnP (v_nums v) (v_bNames v) (v_pNames v) (v_fBoats v) (v_nB v) (v_nP v) (v_day v) (v_votes v) (v_isOpen v) (v_baskets v) (v_lays v) (v_recs v) (v_fneed v) (v_clos v) (v_boatO v) (v_seaO v) (v_faultO v) (v_daysO v) (v_backB v) (v_sailB v) (v_plc v) (v_car v) (v_bnd v) (v_bsk v) (v_dyL v) (v_rsn v) (v_pastF v) (v_pastN v) (v_logF v) (v_logN v) blB blC (v_hsN v) (v_hsX v) (v_hsF v) (v_kpF v) (v_kpZ v) tx txl x hV
noncomputable def a_lacks (v : VT)  : Int32 := (f_X11_lacks (v_nums v) (v_nP v) (v_day v) (v_votes v) (v_isOpen v) (v_fneed v) (v_backB v) (v_plc v))
set_option maxHeartbeats 4000000 in
theorem k_lacks (l : Launch) (D : va_G) (A : Nat → Prop) (w : va_W) (α : Nat → Nat) {v : VT}  (hB : OB D α w v) : Met l yX11_lacks (ws_ yX11_lacks cX11_lacks 1 (some .int)) ({ frames := 5, cells := 0, slots := 0, locals := 109 }) (gPre D A [.ref (α (0))] w) (gR (some (.int (a_lacks v )))) 0 0 A := by
  obtain ⟨pk, pst, pe, dnums, dbNames, dpNames, dfBoats, dnB, dnP, blB, blC, tx, txl, hV, h0⟩ := hB
  exact c_X11_lacks l D A w α (v_err v) pk pst pe (v_tp v) (v_tl v) dnums dbNames dpNames dfBoats dnB dnP (v_nums v) (v_bNames v) (v_pNames v) (v_fBoats v) (v_nB v) (v_nP v) (v_day v) (v_votes v) (v_isOpen v) (v_baskets v) (v_lays v) (v_recs v) (v_fneed v) (v_clos v) (v_boatO v) (v_seaO v) (v_faultO v) (v_daysO v) (v_backB v) (v_sailB v) (v_plc v) (v_car v) (v_bnd v) (v_bsk v) (v_dyL v) (v_rsn v) (v_pastF v) (v_pastN v) (v_logF v) (v_logN v) blB blC (v_hsN v) (v_hsX v) (v_hsF v) (v_kpF v) (v_kpZ v) tx txl hV
noncomputable def a_needIn (v : VT) (x : Int32) : Int32 := (f_X11_needIn (v_nums v) (v_nP v) (v_day v) (v_backB v) x)
set_option maxHeartbeats 4000000 in
theorem k_needIn (l : Launch) (D : va_G) (A : Nat → Prop) (w : va_W) (α : Nat → Nat) {v : VT} (x : Int32) (hB : OB D α w v) : Met l yX11_needIn (ws_ yX11_needIn cX11_needIn 2 (some .int)) ({ frames := 5, cells := 0, slots := 0, locals := 111 }) (gPre D A [.ref (α (0)), .int x] w) (gR (some (.int (a_needIn v x)))) 0 0 A := by
  obtain ⟨pk, pst, pe, dnums, dbNames, dpNames, dfBoats, dnB, dnP, blB, blC, tx, txl, hV, h0⟩ := hB
  exact c_X11_needIn l D A w α (v_err v) pk pst pe (v_tp v) (v_tl v) dnums dbNames dpNames dfBoats dnB dnP (v_nums v) (v_bNames v) (v_pNames v) (v_fBoats v) (v_nB v) (v_nP v) (v_day v) (v_votes v) (v_isOpen v) (v_baskets v) (v_lays v) (v_recs v) (v_fneed v) (v_clos v) (v_boatO v) (v_seaO v) (v_faultO v) (v_daysO v) (v_backB v) (v_sailB v) (v_plc v) (v_car v) (v_bnd v) (v_bsk v) (v_dyL v) (v_rsn v) (v_pastF v) (v_pastN v) (v_logF v) (v_logN v) blB blC (v_hsN v) (v_hsX v) (v_hsF v) (v_kpF v) (v_kpZ v) tx txl x hV
noncomputable def a_bestDay (v : VT) (x : Int32) : Int32 := (f_X11_bestDay (v_nums v) (v_nP v) (v_day v) (v_boatO v) (v_seaO v) (v_backB v) x)
set_option maxHeartbeats 4000000 in
theorem k_bestDay (l : Launch) (D : va_G) (A : Nat → Prop) (w : va_W) (α : Nat → Nat) {v : VT} (x : Int32) (hB : OB D α w v) : Met l yX11_bestDay (ws_ yX11_bestDay cX11_bestDay 2 (some .int)) ({ frames := 7, cells := 0, slots := 0, locals := 158 }) (gPre D A [.ref (α (0)), .int x] w) (gR (some (.int (a_bestDay v x)))) 0 0 A := by
  obtain ⟨pk, pst, pe, dnums, dbNames, dpNames, dfBoats, dnB, dnP, blB, blC, tx, txl, hV, h0⟩ := hB
  exact c_X11_bestDay l D A w α (v_err v) pk pst pe (v_tp v) (v_tl v) dnums dbNames dpNames dfBoats dnB dnP (v_nums v) (v_bNames v) (v_pNames v) (v_fBoats v) (v_nB v) (v_nP v) (v_day v) (v_votes v) (v_isOpen v) (v_baskets v) (v_lays v) (v_recs v) (v_fneed v) (v_clos v) (v_boatO v) (v_seaO v) (v_faultO v) (v_daysO v) (v_backB v) (v_sailB v) (v_plc v) (v_car v) (v_bnd v) (v_bsk v) (v_dyL v) (v_rsn v) (v_pastF v) (v_pastN v) (v_logF v) (v_logN v) blB blC (v_hsN v) (v_hsX v) (v_hsF v) (v_kpF v) (v_kpZ v) tx txl x hV
noncomputable def a_agrees (v : VT)  : Int32 := (b2i (f_X11_agrees (v_lays v) (v_plc v)))
set_option maxHeartbeats 4000000 in
theorem k_agrees (l : Launch) (D : va_G) (A : Nat → Prop) (w : va_W) (α : Nat → Nat) {v : VT}  (hB : OB D α w v) : Met l yX11_agrees (ws_ yX11_agrees cX11_agrees 1 (some .boolean)) ({ frames := 4, cells := 0, slots := 0, locals := 86 }) (gPre D A [.ref (α (0))] w) (gR (some (.int (a_agrees v )))) 0 0 A := by
  obtain ⟨pk, pst, pe, dnums, dbNames, dpNames, dfBoats, dnB, dnP, blB, blC, tx, txl, hV, h0⟩ := hB
  exact c_X11_agrees l D A w α (v_err v) pk pst pe (v_tp v) (v_tl v) dnums dbNames dpNames dfBoats dnB dnP (v_nums v) (v_bNames v) (v_pNames v) (v_fBoats v) (v_nB v) (v_nP v) (v_day v) (v_votes v) (v_isOpen v) (v_baskets v) (v_lays v) (v_recs v) (v_fneed v) (v_clos v) (v_boatO v) (v_seaO v) (v_faultO v) (v_daysO v) (v_backB v) (v_sailB v) (v_plc v) (v_car v) (v_bnd v) (v_bsk v) (v_dyL v) (v_rsn v) (v_pastF v) (v_pastN v) (v_logF v) (v_logN v) blB blC (v_hsN v) (v_hsX v) (v_hsF v) (v_kpF v) (v_kpZ v) tx txl hV
noncomputable def a_share (v : VT) (x : Int32) : UInt32 := (f_X11_share (v_plc v) (v_bsk v) x)
set_option maxHeartbeats 4000000 in
theorem k_share (l : Launch) (D : va_G) (A : Nat → Prop) (w : va_W) (α : Nat → Nat) {v : VT} (x : Int32) (hB : OB D α w v) : MetD lw_cs l yX11_share (ws_ yX11_share cX11_share 3 (some .float)) ({ frames := 4, cells := 0, slots := 0, locals := 87 }) (gPre D A [.ref (α (0)), .int x] w) (gF (a_share v x)) 0 0 A := by
  obtain ⟨pk, pst, pe, dnums, dbNames, dpNames, dfBoats, dnB, dnP, blB, blC, tx, txl, hV, h0⟩ := hB
  exact c_X11_share l D A w α (v_err v) pk pst pe (v_tp v) (v_tl v) dnums dbNames dpNames dfBoats dnB dnP (v_nums v) (v_bNames v) (v_pNames v) (v_fBoats v) (v_nB v) (v_nP v) (v_day v) (v_votes v) (v_isOpen v) (v_baskets v) (v_lays v) (v_recs v) (v_fneed v) (v_clos v) (v_boatO v) (v_seaO v) (v_faultO v) (v_daysO v) (v_backB v) (v_sailB v) (v_plc v) (v_car v) (v_bnd v) (v_bsk v) (v_dyL v) (v_rsn v) (v_pastF v) (v_pastN v) (v_logF v) (v_logN v) blB blC (v_hsN v) (v_hsX v) (v_hsF v) (v_kpF v) (v_kpZ v) tx txl x hV
noncomputable def a_seafaring (v : VT)  : UInt64 := (f_X11_seafaring (v_nP v) (v_day v) (v_daysO v))
set_option maxHeartbeats 4000000 in
theorem k_seafaring (l : Launch) (D : va_G) (A : Nat → Prop) (w : va_W) (α : Nat → Nat) {v : VT}  (hB : OB D α w v) : MetD lw_cs l yX11_seafaring (ws_ yX11_seafaring cX11_seafaring 3 (some .double)) ({ frames := 3, cells := 0, slots := 0, locals := 66 }) (gPre D A [.ref (α (0))] w) (gD (a_seafaring v )) 0 0 A := by
  obtain ⟨pk, pst, pe, dnums, dbNames, dpNames, dfBoats, dnB, dnP, blB, blC, tx, txl, hV, h0⟩ := hB
  exact c_X11_seafaring l D A w α (v_err v) pk pst pe (v_tp v) (v_tl v) dnums dbNames dpNames dfBoats dnB dnP (v_nums v) (v_bNames v) (v_pNames v) (v_fBoats v) (v_nB v) (v_nP v) (v_day v) (v_votes v) (v_isOpen v) (v_baskets v) (v_lays v) (v_recs v) (v_fneed v) (v_clos v) (v_boatO v) (v_seaO v) (v_faultO v) (v_daysO v) (v_backB v) (v_sailB v) (v_plc v) (v_car v) (v_bnd v) (v_bsk v) (v_dyL v) (v_rsn v) (v_pastF v) (v_pastN v) (v_logF v) (v_logN v) blB blC (v_hsN v) (v_hsX v) (v_hsF v) (v_kpF v) (v_kpZ v) tx txl hV
