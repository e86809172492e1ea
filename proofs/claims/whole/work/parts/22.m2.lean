
theorem in_iff {v a b : Int64} : f_X12_in v a b = true ↔ a ≤ v ∧ v ≤ b := by
  unfold f_X12_in
  by_cases h1 : v < a
  · rw [if_pos h1]
    exact ⟨(fun h => nomatch h), fun h => absurd h1 (Int64.not_lt.mpr h.1)⟩
  · rw [if_neg h1]
    by_cases h2 : b < v
    · rw [if_pos h2]
      exact ⟨(fun h => nomatch h), fun h => absurd h2 (Int64.not_lt.mpr h.2)⟩
    · rw [if_neg h2]
      exact ⟨fun _ => ⟨Int64.not_lt.mp h1, Int64.not_lt.mp h2⟩, fun _ => rfl⟩
theorem in_vin {x : Int32} {b : Int64} {n : Nat} (hb : b.toInt < n) (h : f_X12_in x.toInt64 0 b = true) : vp_in x n := by
  obtain ⟨h1, h2⟩ := in_iff.mp h
  have a1 := Int64.le_iff_toInt_le.mp h1
  have a2 := Int64.le_iff_toInt_le.mp h2
  rw [Int32.toInt_toInt64] at a1 a2
  have a3 : (0 : Int64).toInt = 0 := rfl
  exact vp_in_iff.mpr ⟨by omega, by omega⟩
theorem isPerson_in {n p : Int32} (h : vp_in n 21) (c : f_X12_isPerson n p = true) : vp_in p 20 := by
  obtain ⟨e, hl⟩ := vin_nI h
  refine in_vin ?_ c
  rw [Int32.toInt_toInt64, e, fb_sub1 (by omega)]
  omega
theorem isBoat_in {n p : Int32} (h : vp_in n 7) (c : f_X12_isBoat n p = true) : vp_in p 6 := by
  obtain ⟨e, hl⟩ := vin_nI h
  refine in_vin ?_ c
  rw [Int32.toInt_toInt64, e, fb_sub1 (by omega)]
  omega
theorem sea_in {mW : Nat → Int32} {p : Int32} (h : ∀ q, vp_in q 20 → f_X12_of mW q 1 < 6) (hp : vp_in p 20) (c : f_X12_isAtSea mW p = true) : vp_in (f_X12_of mW p 1) 6 := by
  have h6 : (6 : Int32) = nI 6 := rfl
  have h1 := h p hp
  refine vin_of' (by decide) ?_ (by rw [← h6]; exact h1)
  unfold f_X12_isAtSea at c
  by_cases h2 : f_X12_of mW p 1 < 0
  · rw [if_pos h2] at c; cases c
  · exact Int32.not_lt.mp h2
def L_X12_ones_4 (x : Int32) : Nat → Int32 × Int32 := iter_ (fun n sn => ((sn.1 &&& (sn.1 - 1)), (sn.2 + 1))) (x, 0)
def f_X12_ones (x : Int32) : Int32 := (L_X12_ones_4 x (wh_ (fun k => decide ((L_X12_ones_4 x k).1 = 0)) 32)).2
theorem ones_ex (x : Int32) : ∃ n, n ≤ 32 ∧ (L_X12_ones_4 x n).1 = 0 := by
  sorry
set_option maxHeartbeats 4000000 in
set_option maxRecDepth 100000 in
theorem c_X12_ones (l : Launch) (D : va_G) (A : Nat → Prop) (w : va_W) (α : Nat → Nat) (x : Int32) : Met l yX12_ones (ws_ yX12_ones cX12_ones 3 (some .int)) ({ frames := 0, cells := 0, slots := 0, locals := 0 }) (gPre D A [.int x] w) (gR (some (.int (f_X12_ones x)))) 0 0 A := by
  refine g_met [(0, .int x)] (plainFor_of_name (by decide)) (Nat.le_of_ble_eq_true rfl) rfl (fun pg en s mi ar below me co ls S hK hP hD hE hS hr hlk hnm hl => ?_)
  refine lv_iconst (v := 0) S.1 S.2.1 dX12_ones_0 (by decide) ?_
  refine lv_istore_n (lv' := [(1, .int 0), (0, .int x)]) S.1 S.2.1 dX12_ones_1 rfl hl (by decide) rfl (fun ls hl => ?_)
  refine lv_iload_n S.1 S.2.1 dX12_ones_2 rfl (lv_at hl 1 rfl) ?_
  refine lv_istore_n (lv' := [(2, .int x), (1, .int 0), (0, .int x)]) S.1 S.2.1 dX12_ones_3 rfl hl (by decide) rfl (fun ls hl => ?_)
  have lp4 : ∀ (j n : Nat), n + j = (wh_ (fun k => decide ((L_X12_ones_4 x k).1 = 0)) 32) → ∀ (locs : List Loc) (ls : Array Slot), va_S A s.heap s.heap locs → lv_has ls 3 [(2, .int ((L_X12_ones_4 x n).1)), (1, .int ((L_X12_ones_4 x n).2)), (0, .int x)] → W pg l en ({ frames := 0, cells := 0, slots := 0, locals := 0 } : Room) s mi ar below me co s.heap locs 0 0 (MQ below (gR (some (.int (f_X12_ones x)))) ar s 0 0 A) (F0 mi 4 ls []) := by
    intro j
    induction j with
    | zero =>
      intro n hn locs ls hS hl
      have hn : (wh_ (fun k => decide ((L_X12_ones_4 x k).1 = 0)) 32) = n := hn.symm
      subst hn
      refine lv_iload_n S.1 S.2.1 dX12_ones_4 rfl (lv_at hl 0 rfl) ?_
      refine lv_if_eq (tgt := 20) S.1 S.2.1 dX12_ones_5 (by decide) (fun (c1 : (L_X12_ones_4 x (wh_ (fun k => decide ((L_X12_ones_4 x k).1 = 0)) 32)).1 = 0) => ?_) (fun (c1 : ¬ (L_X12_ones_4 x (wh_ (fun k => decide ((L_X12_ones_4 x k).1 = 0)) 32)).1 = 0) => absurd c1 (wh_outP (ones_ex x)))
      refine lv_iload_n S.1 S.2.1 dX12_ones_20 rfl (lv_at hl 1 rfl) ?_
      have hf : (f_X12_ones x) = (L_X12_ones_4 x (wh_ (fun k => decide ((L_X12_ones_4 x k).1 = 0)) 32)).2 := rfl
      exact g_iretR S hr hlk hS (by rw [hf] <;> rfl) dX12_ones_21
    | succ j ih =>
      intro n hn locs ls hS hl
      refine lv_iload_n S.1 S.2.1 dX12_ones_4 rfl (lv_at hl 0 rfl) ?_
      refine lv_if_eq (tgt := 20) S.1 S.2.1 dX12_ones_5 (by decide) (fun (c2 : (L_X12_ones_4 x n).1 = 0) => absurd c2 (wh_inP hn)) (fun (c2 : ¬ (L_X12_ones_4 x n).1 = 0) => ?_)
      refine lv_iinc (v := ((L_X12_ones_4 x n).2 + 1)) (lv' := [(1, .int ((L_X12_ones_4 x n).2 + 1)), (2, .int ((L_X12_ones_4 x n).1)), (0, .int x)]) S.1 S.2.1 dX12_ones_8 hl (k := 1) rfl (rfl) (by decide) rfl (fun ls hl => ?_)
      refine lv_iload_n S.1 S.2.1 dX12_ones_11 rfl (lv_at hl 1 rfl) ?_
      refine lv_iload_n S.1 S.2.1 dX12_ones_12 rfl (lv_at hl 1 rfl) ?_
      refine lv_iconst (v := 1) S.1 S.2.1 dX12_ones_13 (by decide) ?_
      refine lv_isub S.1 S.2.1 dX12_ones_14 ?_
      refine lv_iand S.1 S.2.1 dX12_ones_15 ?_
      refine lv_istore_n (lv' := [(2, .int ((L_X12_ones_4 x n).1 &&& ((L_X12_ones_4 x n).1 - 1))), (1, .int ((L_X12_ones_4 x n).2 + 1)), (0, .int x)]) S.1 S.2.1 dX12_ones_16 rfl hl (by decide) rfl (fun ls hl => ?_)
      refine lv_goto (tgt := 4) S.1 S.2.1 dX12_ones_17 (by decide) ?_
      have hL : (L_X12_ones_4 x (n + 1)) = (((L_X12_ones_4 x n).1 &&& ((L_X12_ones_4 x n).1 - 1)), ((L_X12_ones_4 x n).2 + 1)) := (iter_s _ _ _).trans (rfl)
      refine ih (n + 1) (by omega) _ _ hS ?_
      rw [hL]; exact lv_sub hl [0, 1, 2] rfl
  have hL0 : (L_X12_ones_4 x 0) = (x, 0) := iter_z _ _
  exact lp4 (wh_ (fun k => decide ((L_X12_ones_4 x k).1 = 0)) 32) 0 (Nat.zero_add _) _ _ hS (by rw [hL0]; exact lv_sub hl [0, 1, 2] rfl)
def f_X12_turnout (mPpl : Int32) (mW : Nat → Int32) : Int32 := (f_X12_ones (f_X12_allLaid mPpl mW))
set_option maxHeartbeats 4000000 in
set_option maxRecDepth 100000 in
theorem c_X12_turnout (l : Launch) (D : va_G) (A : Nat → Prop) (w : va_W) (α : Nat → Nat) (k : Nat) (mTaped : Int32) (mErr : Int32) (mPpl : Int32) (mBts : Int32) (mUs : Int32) (mRa : Int32) (mSt : Int32) (mKi : Int32) (mWd : Int64) (mVal : Int32) (mLet : Int32) (mFin : Int32) (mNp : Int32) (mNb : Int32) (mOuts : Int32) (mWant : Int32) (mFnd : Int32) (mTape : Nat → Int32) (mNum : Nat → Int32) (mNam : Nat → Int32) (mFst : Nat → Int32) (mBnm : Nat → Int32) (mW : Nat → Int32) (mUn : Nat → Int32) (mSl : Nat → Int32) (mKp : Nat → Int32) (mnNum : Nat → Int32) (mnNam : Nat → Int32) (mnBo : Nat → Int32) (mnBn : Nat → Int32) (hB0 : Blk w k (cM D α k mTaped mErr mPpl mBts mUs mRa mSt mKi mWd mVal mLet mFin mNp mNb mOuts mWant mFnd mTape mNum mNam mFst mBnm mW mUn mSl mKp mnNum mnNam mnBo mnBn)) (hy0 : vp_in mPpl 21) : Met l yX12_turnout (ws_ yX12_turnout cX12_turnout 1 (some .int)) ({ frames := 3, cells := 0, slots := 0, locals := 67 }) (gPre D A [.ref (α (k))] w) (gR (some (.int (f_X12_turnout mPpl mW)))) 0 0 A := by
  refine g_met [(0, .ref (α (k)))] (plainFor_of_name (by decide)) (Nat.le_of_ble_eq_true rfl) rfl (fun pg en s mi ar below me co ls S hK hP hD hE hS hr hlk hnm hl => ?_)
  have hpn := vin_lt (show vp_in mPpl 21 by assumption)
  refine lv_aload_n S.1 S.2.1 dX12_turnout_0 rfl (lv_at hl 0 rfl) ?_
  refine g_aftR0 (st1 := [.int (f_X12_allLaid mPpl mW)]) (g_V (As := []) (rest := []) S mi_X12_allLaid qw1720 (c_X12_allLaid l D A w α (k) mTaped mErr mPpl mBts mUs mRa mSt mKi mWd mVal mLet mFin mNp mNb mOuts mWant mFnd mTape mNum mNam mFst mBnm mW mUn mSl mKp mnNum mnNam mnBo mnBn hB0 (by first | assumption | exact vin_d (by decide) | exact vp_in_nI (by omega) (by decide) | decide | omega)) hK hP hD hE hS (hB0 0 _ rfl) rfl rfl rfl hl.1 (Nat.le_of_ble_eq_true rfl) rfl rfl ⟨(Nat.le_of_ble_eq_true rfl), (Nat.le_of_ble_eq_true rfl)⟩ ⟨(Nat.le_of_ble_eq_true rfl), (Nat.le_of_ble_eq_true rfl)⟩ dX12_turnout_1) hS rfl (fun locs hS => ?_)
  refine g_aftR0 (st1 := [.int (f_X12_ones (f_X12_allLaid mPpl mW))]) (g_St (As := [.int (f_X12_allLaid mPpl mW)]) (rest := []) S ms_X12_ones qw1645 (c_X12_ones l D A w α (f_X12_allLaid mPpl mW)) hK hP hD hE hS rfl rfl hl.1 (Nat.le_of_ble_eq_true rfl) rfl rfl ⟨(Nat.le_of_ble_eq_true rfl), (Nat.le_of_ble_eq_true rfl)⟩ ⟨(Nat.le_of_ble_eq_true rfl), (Nat.le_of_ble_eq_true rfl)⟩ dX12_turnout_4) hS rfl (fun locs hS => ?_)
  have hf : (f_X12_turnout mPpl mW) = (f_X12_ones (f_X12_allLaid mPpl mW)) := rfl
  exact g_iretR S hr hlk hS (by rw [hf] <;> rfl) dX12_turnout_7
def f_X12_would (mPpl : Int32) (mNum : Nat → Int32) (mW : Nat → Int32) (p : Int32) (o : Int32) (b : Int32) : Int32 := (bif (f_X12_isPerson mPpl p) then (bif (f_X12_isPerson mPpl o) then (bif (f_X12_isBasket b) then (bif (f_X12_isAtSea mW p) then (-3) else (bif (f_X12_has mW p o) then (bif (f_X12_isOpen mW) then (if b < (mW 3) then (f_X12_wrongBy mNum mW p o b) else (-5)) else (-5)) else (-4))) else (-1)) else (-1)) else (-1))
set_option maxHeartbeats 4000000 in
set_option maxRecDepth 100000 in
theorem c_X12_would (l : Launch) (D : va_G) (A : Nat → Prop) (w : va_W) (α : Nat → Nat) (k : Nat) (mTaped : Int32) (mErr : Int32) (mPpl : Int32) (mBts : Int32) (mUs : Int32) (mRa : Int32) (mSt : Int32) (mKi : Int32) (mWd : Int64) (mVal : Int32) (mLet : Int32) (mFin : Int32) (mNp : Int32) (mNb : Int32) (mOuts : Int32) (mWant : Int32) (mFnd : Int32) (mTape : Nat → Int32) (mNum : Nat → Int32) (mNam : Nat → Int32) (mFst : Nat → Int32) (mBnm : Nat → Int32) (mW : Nat → Int32) (mUn : Nat → Int32) (mSl : Nat → Int32) (mKp : Nat → Int32) (mnNum : Nat → Int32) (mnNam : Nat → Int32) (mnBo : Nat → Int32) (mnBn : Nat → Int32) (p : Int32) (o : Int32) (b : Int32) (hB0 : Blk w k (cM D α k mTaped mErr mPpl mBts mUs mRa mSt mKi mWd mVal mLet mFin mNp mNb mOuts mWant mFnd mTape mNum mNam mFst mBnm mW mUn mSl mKp mnNum mnNam mnBo mnBn)) (hy0 : vp_in mPpl 21) : Met l yX12_would (ws_ yX12_would cX12_would 4 (some .int)) ({ frames := 3, cells := 0, slots := 0, locals := 67 }) (gPre D A [.ref (α (k)), .int p, .int o, .int b] w) (gR (some (.int (f_X12_would mPpl mNum mW p o b)))) 0 0 A := by
  refine g_met [(0, .ref (α (k))), (1, .int p), (2, .int o), (3, .int b)] (plainFor_of_name (by decide)) (Nat.le_of_ble_eq_true rfl) rfl (fun pg en s mi ar below me co ls S hK hP hD hE hS hr hlk hnm hl => ?_)
  refine lv_aload_n S.1 S.2.1 dX12_would_0 rfl (lv_at hl 0 rfl) ?_
  refine lv_iload_n S.1 S.2.1 dX12_would_1 rfl (lv_at hl 1 rfl) ?_
  refine g_aftR0 (st1 := [.int (b2i (f_X12_isPerson mPpl p))]) (g_V (As := [.int p]) (rest := []) S mi_X12_isPerson qw1611 (c_X12_isPerson l D A w α (k) mTaped mErr mPpl mBts mUs mRa mSt mKi mWd mVal mLet mFin mNp mNb mOuts mWant mFnd mTape mNum mNam mFst mBnm mW mUn mSl mKp mnNum mnNam mnBo mnBn p hB0) hK hP hD hE hS (hB0 0 _ rfl) rfl rfl rfl hl.1 (Nat.le_of_ble_eq_true rfl) rfl rfl ⟨(Nat.le_of_ble_eq_true rfl), (Nat.le_of_ble_eq_true rfl)⟩ ⟨(Nat.le_of_ble_eq_true rfl), (Nat.le_of_ble_eq_true rfl)⟩ dX12_would_2) hS rfl (fun locs hS => ?_)
  refine g_bifeq (b := (f_X12_isPerson mPpl p)) (tgt := 23) S dX12_would_5 (by decide) (fun (c1 : (f_X12_isPerson mPpl p) = false) => ?_) (fun (c1 : (f_X12_isPerson mPpl p) = true) => ?_)
  · refine lv_iconst (v := (-1)) S.1 S.2.1 dX12_would_23 (by decide) ?_
    have hf : (f_X12_would mPpl mNum mW p o b) = (-1) := cd_f c1
    exact g_iretR S hr hlk hS (by rw [hf] <;> rfl) dX12_would_24
  · have hh1 := isPerson_in (by assumption) c1
    refine lv_aload_n S.1 S.2.1 dX12_would_8 rfl (lv_at hl 0 rfl) ?_
    refine lv_iload_n S.1 S.2.1 dX12_would_9 rfl (lv_at hl 2 rfl) ?_
    refine g_aftR0 (st1 := [.int (b2i (f_X12_isPerson mPpl o))]) (g_V (As := [.int o]) (rest := []) S mi_X12_isPerson qw1611 (c_X12_isPerson l D A w α (k) mTaped mErr mPpl mBts mUs mRa mSt mKi mWd mVal mLet mFin mNp mNb mOuts mWant mFnd mTape mNum mNam mFst mBnm mW mUn mSl mKp mnNum mnNam mnBo mnBn o hB0) hK hP hD hE hS (hB0 0 _ rfl) rfl rfl rfl hl.1 (Nat.le_of_ble_eq_true rfl) rfl rfl ⟨(Nat.le_of_ble_eq_true rfl), (Nat.le_of_ble_eq_true rfl)⟩ ⟨(Nat.le_of_ble_eq_true rfl), (Nat.le_of_ble_eq_true rfl)⟩ dX12_would_10) hS rfl (fun locs hS => ?_)
    refine g_bifeq (b := (f_X12_isPerson mPpl o)) (tgt := 23) S dX12_would_13 (by decide) (fun (c2 : (f_X12_isPerson mPpl o) = false) => ?_) (fun (c2 : (f_X12_isPerson mPpl o) = true) => ?_)
    · refine lv_iconst (v := (-1)) S.1 S.2.1 dX12_would_23 (by decide) ?_
      have hf : (f_X12_would mPpl mNum mW p o b) = (-1) := (cd_t c1).trans (cd_f c2)
      exact g_iretR S hr hlk hS (by rw [hf] <;> rfl) dX12_would_24
    · have hh2 := isPerson_in (by assumption) c2
      refine lv_iload_n S.1 S.2.1 dX12_would_16 rfl (lv_at hl 3 rfl) ?_
      refine g_aftR0 (st1 := [.int (b2i (f_X12_isBasket b))]) (g_St (As := [.int b]) (rest := []) S ms_X12_isBasket qw1637 (c_X12_isBasket l D A w α b) hK hP hD hE hS rfl rfl hl.1 (Nat.le_of_ble_eq_true rfl) rfl rfl ⟨(Nat.le_of_ble_eq_true rfl), (Nat.le_of_ble_eq_true rfl)⟩ ⟨(Nat.le_of_ble_eq_true rfl), (Nat.le_of_ble_eq_true rfl)⟩ dX12_would_17) hS rfl (fun locs hS => ?_)
      refine g_bifne (b := (f_X12_isBasket b)) (tgt := 25) S dX12_would_20 (by decide) (fun (c3 : (f_X12_isBasket b) = true) => ?_) (fun (c3 : (f_X12_isBasket b) = false) => ?_)
      · refine lv_aload_n S.1 S.2.1 dX12_would_25 rfl (lv_at hl 0 rfl) ?_
        refine lv_iload_n S.1 S.2.1 dX12_would_26 rfl (lv_at hl 1 rfl) ?_
        refine g_aftR0 (st1 := [.int (b2i (f_X12_isAtSea mW p))]) (g_V (As := [.int p]) (rest := []) S mi_X12_isAtSea qw1583 (c_X12_isAtSea l D A w α (k) mTaped mErr mPpl mBts mUs mRa mSt mKi mWd mVal mLet mFin mNp mNb mOuts mWant mFnd mTape mNum mNam mFst mBnm mW mUn mSl mKp mnNum mnNam mnBo mnBn p hB0 (by first | assumption | exact vin_d (by decide) | exact vp_in_nI (by omega) (by decide) | decide | omega)) hK hP hD hE hS (hB0 0 _ rfl) rfl rfl rfl hl.1 (Nat.le_of_ble_eq_true rfl) rfl rfl ⟨(Nat.le_of_ble_eq_true rfl), (Nat.le_of_ble_eq_true rfl)⟩ ⟨(Nat.le_of_ble_eq_true rfl), (Nat.le_of_ble_eq_true rfl)⟩ dX12_would_27) hS rfl (fun locs hS => ?_)
        refine g_bifeq (b := (f_X12_isAtSea mW p)) (tgt := 36) S dX12_would_30 (by decide) (fun (c4 : (f_X12_isAtSea mW p) = false) => ?_) (fun (c4 : (f_X12_isAtSea mW p) = true) => ?_)
        · refine lv_aload_n S.1 S.2.1 dX12_would_36 rfl (lv_at hl 0 rfl) ?_
          refine lv_iload_n S.1 S.2.1 dX12_would_37 rfl (lv_at hl 1 rfl) ?_
          refine lv_iload_n S.1 S.2.1 dX12_would_38 rfl (lv_at hl 2 rfl) ?_
          refine g_aftR0 (st1 := [.int (b2i (f_X12_has mW p o))]) (g_V (As := [.int p, .int o]) (rest := []) S mi_X12_has qw1660 (c_X12_has l D A w α (k) mTaped mErr mPpl mBts mUs mRa mSt mKi mWd mVal mLet mFin mNp mNb mOuts mWant mFnd mTape mNum mNam mFst mBnm mW mUn mSl mKp mnNum mnNam mnBo mnBn p o hB0 (by first | assumption | exact vin_d (by decide) | exact vp_in_nI (by omega) (by decide) | decide | omega)) hK hP hD hE hS (hB0 0 _ rfl) rfl rfl rfl hl.1 (Nat.le_of_ble_eq_true rfl) rfl rfl ⟨(Nat.le_of_ble_eq_true rfl), (Nat.le_of_ble_eq_true rfl)⟩ ⟨(Nat.le_of_ble_eq_true rfl), (Nat.le_of_ble_eq_true rfl)⟩ dX12_would_39) hS rfl (fun locs hS => ?_)
          refine g_bifne (b := (f_X12_has mW p o)) (tgt := 48) S dX12_would_42 (by decide) (fun (c5 : (f_X12_has mW p o) = true) => ?_) (fun (c5 : (f_X12_has mW p o) = false) => ?_)
          · refine lv_aload_n S.1 S.2.1 dX12_would_48 rfl (lv_at hl 0 rfl) ?_
            refine g_aftR0 (st1 := [.int (b2i (f_X12_isOpen mW))]) (g_V (As := []) (rest := []) S mi_X12_isOpen qw1621 (c_X12_isOpen l D A w α (k) mTaped mErr mPpl mBts mUs mRa mSt mKi mWd mVal mLet mFin mNp mNb mOuts mWant mFnd mTape mNum mNam mFst mBnm mW mUn mSl mKp mnNum mnNam mnBo mnBn hB0) hK hP hD hE hS (hB0 0 _ rfl) rfl rfl rfl hl.1 (Nat.le_of_ble_eq_true rfl) rfl rfl ⟨(Nat.le_of_ble_eq_true rfl), (Nat.le_of_ble_eq_true rfl)⟩ ⟨(Nat.le_of_ble_eq_true rfl), (Nat.le_of_ble_eq_true rfl)⟩ dX12_would_49) hS rfl (fun locs hS => ?_)
            refine g_bifeq (b := (f_X12_isOpen mW)) (tgt := 65) S dX12_would_52 (by decide) (fun (c6 : (f_X12_isOpen mW) = false) => ?_) (fun (c6 : (f_X12_isOpen mW) = true) => ?_)
            · refine lv_bipush (v := (-5)) S.1 S.2.1 dX12_would_65 (by decide) ?_
              refine lv_goto (tgt := 77) S.1 S.2.1 dX12_would_67 (by decide) ?_
              have hf : (f_X12_would mPpl mNum mW p o b) = (-5) := (cd_t c1).trans ((cd_t c2).trans ((cd_t c3).trans ((cd_f c4).trans ((cd_t c5).trans (cd_f c6)))))
              exact g_iretR S hr hlk hS (by rw [hf] <;> rfl) dX12_would_77
            · refine lv_iload_n S.1 S.2.1 dX12_would_55 rfl (lv_at hl 3 rfl) ?_
              refine lv_aload_n S.1 S.2.1 dX12_would_56 rfl (lv_at hl 0 rfl) ?_
              refine g_get (v := .ref (α (k + 6))) S hK hP (hB0 0 _ rfl) rfl inX12 9 (by decide) qw1383 rfl dX12_would_57 ?_
              refine lv_iconst (v := 3) S.1 S.2.1 dX12_would_60 (by decide) ?_
              refine g_iald S hK hP (hB0 6 _ rfl) (by first | assumption | exact vin_d (by decide) | exact vp_in_nI (by omega) (by decide) | decide) dX12_would_61 ?_
              refine lv_icmp_lt (tgt := 70) S.1 S.2.1 dX12_would_62 (by decide) (fun (c7 : b < (mW 3)) => ?_) (fun (c7 : ¬ b < (mW 3)) => ?_)
              · refine lv_aload_n S.1 S.2.1 dX12_would_70 rfl (lv_at hl 0 rfl) ?_
                refine lv_iload_n S.1 S.2.1 dX12_would_71 rfl (lv_at hl 1 rfl) ?_
                refine lv_iload_n S.1 S.2.1 dX12_would_72 rfl (lv_at hl 2 rfl) ?_
                refine lv_iload_n S.1 S.2.1 dX12_would_73 rfl (lv_at hl 3 rfl) ?_
                refine g_aftR0 (st1 := [.int (f_X12_wrongBy mNum mW p o b)]) (g_V (As := [.int p, .int o, .int b]) (rest := []) S mi_X12_wrongBy qw1664 (c_X12_wrongBy l D A w α (k) mTaped mErr mPpl mBts mUs mRa mSt mKi mWd mVal mLet mFin mNp mNb mOuts mWant mFnd mTape mNum mNam mFst mBnm mW mUn mSl mKp mnNum mnNam mnBo mnBn p o b hB0 (by first | assumption | exact vin_d (by decide) | exact vp_in_nI (by omega) (by decide) | decide | omega) (by first | assumption | exact vin_d (by decide) | exact vp_in_nI (by omega) (by decide) | decide | omega)) hK hP hD hE hS (hB0 0 _ rfl) rfl rfl rfl hl.1 (Nat.le_of_ble_eq_true rfl) rfl rfl ⟨(Nat.le_of_ble_eq_true rfl), (Nat.le_of_ble_eq_true rfl)⟩ ⟨(Nat.le_of_ble_eq_true rfl), (Nat.le_of_ble_eq_true rfl)⟩ dX12_would_74) hS rfl (fun locs hS => ?_)
                have hf : (f_X12_would mPpl mNum mW p o b) = (f_X12_wrongBy mNum mW p o b) := (cd_t c1).trans ((cd_t c2).trans ((cd_t c3).trans ((cd_f c4).trans ((cd_t c5).trans ((cd_t c6).trans (if_pos c7))))))
                exact g_iretR S hr hlk hS (by rw [hf] <;> rfl) dX12_would_77
              · refine lv_bipush (v := (-5)) S.1 S.2.1 dX12_would_65 (by decide) ?_
                refine lv_goto (tgt := 77) S.1 S.2.1 dX12_would_67 (by decide) ?_
                have hf : (f_X12_would mPpl mNum mW p o b) = (-5) := (cd_t c1).trans ((cd_t c2).trans ((cd_t c3).trans ((cd_f c4).trans ((cd_t c5).trans ((cd_t c6).trans (if_neg c7))))))
                exact g_iretR S hr hlk hS (by rw [hf] <;> rfl) dX12_would_77
          · refine lv_bipush (v := (-4)) S.1 S.2.1 dX12_would_45 (by decide) ?_
            have hf : (f_X12_would mPpl mNum mW p o b) = (-4) := (cd_t c1).trans ((cd_t c2).trans ((cd_t c3).trans ((cd_f c4).trans (cd_f c5))))
            exact g_iretR S hr hlk hS (by rw [hf] <;> rfl) dX12_would_47
        · refine lv_bipush (v := (-3)) S.1 S.2.1 dX12_would_33 (by decide) ?_
          have hf : (f_X12_would mPpl mNum mW p o b) = (-3) := (cd_t c1).trans ((cd_t c2).trans ((cd_t c3).trans (cd_t c4)))
          exact g_iretR S hr hlk hS (by rw [hf] <;> rfl) dX12_would_35
      · refine lv_iconst (v := (-1)) S.1 S.2.1 dX12_would_23 (by decide) ?_
        have hf : (f_X12_would mPpl mNum mW p o b) = (-1) := (cd_t c1).trans ((cd_t c2).trans (cd_f c3))
        exact g_iretR S hr hlk hS (by rw [hf] <;> rfl) dX12_would_24
