
theorem in_vin1 {x : Int32} {a b : Int64} {n : Nat} (ha : 0 ≤ a.toInt) (hb : b.toInt < n) (h : f_X12_in x.toInt64 a b = true) : vp_in x n := by
  obtain ⟨h1, h2⟩ := in_iff.mp h
  have a1 := Int64.le_iff_toInt_le.mp h1
  have a2 := Int64.le_iff_toInt_le.mp h2
  rw [Int32.toInt_toInt64] at a1 a2
  exact vp_in_iff.mpr ⟨by omega, by omega⟩
theorem day_nn {a b : Int32} (ha : vp_in a 1000000) (hb : vp_in b 1000) : 0 ≤ a + b := by
  obtain ⟨e, h1⟩ := vin_nI ha
  obtain ⟨e2, h2⟩ := vin_nI hb
  rw [e, e2, nI_add]
  exact nI_pos' (by omega)
theorem bd2_in {d : Int32} {n j : Nat} (hd : vp_in d 100) (h : n + (j + 1) = d.toNatClampNeg + 1) : ¬ d < nI n := by
  obtain ⟨e, h1⟩ := vin_nI hd
  rw [nI_ltB (by omega)]
  have h3 : d.toInt.toNat = d.toNatClampNeg := rfl
  have := (vp_in_iff.mp hd).1
  omega
theorem bd2_out {d : Int32} (hd : vp_in d 100) : ¬ ¬ d < nI (d.toNatClampNeg + 1) := by
  obtain ⟨e, h1⟩ := vin_nI hd
  refine not_not_intro ((nI_ltB (by omega)).mpr ?_)
  have h3 : d.toInt.toNat = d.toNatClampNeg := rfl
  have := (vp_in_iff.mp hd).1
  omega
def f_X12_value (mPpl : Int32) (mBts : Int32) (mNum : Nat → Int32) (mW : Nat → Int32) (x : Int32) : Int32 := (if x = 0 then (mW 0) else (if x = 1 then (((mW 0) / (mNum 0)) - ((mW 0) / (mNum 0)) / 4 * 4) else (if x = 2 then mPpl else (if x = 3 then mBts else (if x = 4 then (f_X12_outOn mBts mW (mW 0)) else (if x = 5 then (f_X12_atSeaMany mPpl mW) else (if x = 6 then (f_X12_needNow mPpl mBts mNum mW) else (if x = 7 then (f_X12_turnout mPpl mW) else (if x = 8 then (f_X12_stateOf mNum mW) else (if x = 9 then (mW 3) else (if x = 10 then (bif (f_X12_isClosed mW) then (f_X12_resultNow mPpl mBts mNum mW) else (-2)) else (if x = 11 then (f_X12_struckMany mPpl mW) else (if x = 12 then (mW 6) else (if x = 13 then (mW 1) else (if x = 14 then (mW 8) else (if x = 15 then (mPpl - (f_X12_atSeaMany mPpl mW)) else (if x = 16 then (f_X12_ones (f_X12_wrongSet mPpl mW)) else (-1))))))))))))))))))
set_option maxHeartbeats 4000000 in
set_option maxRecDepth 100000 in
theorem c_X12_value (l : Launch) (D : va_G) (A : Nat → Prop) (w : va_W) (α : Nat → Nat) (k : Nat) (mTaped : Int32) (mErr : Int32) (mPpl : Int32) (mBts : Int32) (mUs : Int32) (mRa : Int32) (mSt : Int32) (mKi : Int32) (mWd : Int64) (mVal : Int32) (mLet : Int32) (mFin : Int32) (mNp : Int32) (mNb : Int32) (mOuts : Int32) (mWant : Int32) (mFnd : Int32) (mTape : Nat → Int32) (mNum : Nat → Int32) (mNam : Nat → Int32) (mFst : Nat → Int32) (mBnm : Nat → Int32) (mW : Nat → Int32) (mUn : Nat → Int32) (mSl : Nat → Int32) (mKp : Nat → Int32) (mnNum : Nat → Int32) (mnNam : Nat → Int32) (mnBo : Nat → Int32) (mnBn : Nat → Int32) (x : Int32) (hB0 : Blk w k (cM D α k mTaped mErr mPpl mBts mUs mRa mSt mKi mWd mVal mLet mFin mNp mNb mOuts mWant mFnd mTape mNum mNam mFst mBnm mW mUn mSl mKp mnNum mnNam mnBo mnBn)) (hy0 : vp_in mPpl 21) (hy1 : 0 ≤ mW 0) (hy2 : 0 < mNum 0) (hy3 : vp_in mBts 7) : Met l yX12_value (ws_ yX12_value cX12_value 2 (some .int)) ({ frames := 6, cells := 0, slots := 0, locals := 128 }) (gPre D A [.ref (α (k)), .int x] w) (gR (some (.int (f_X12_value mPpl mBts mNum mW x)))) 0 0 A := by
  refine g_met [(0, .ref (α (k))), (1, .int x)] (plainFor_of_name (by decide)) (Nat.le_of_ble_eq_true rfl) rfl (fun pg en s mi ar below me co ls S hK hP hD hE hS hr hlk hnm hl => ?_)
  have hpn := vin_lt (show vp_in mPpl 21 by assumption)
  refine lv_iload_n S.1 S.2.1 dX12_value_0 rfl (lv_at hl 1 rfl) ?_
  by_cases k1_0 : x = 0
  · refine lv_tableIn (tgt := 84) S.1 S.2.1 dX12_value_1 (by rw [k1_0]; decide) (by rw [k1_0]; decide) (by rw [k1_0]; rfl) (by decide) ?_
    refine lv_aload_n S.1 S.2.1 dX12_value_84 rfl (lv_at hl 0 rfl) ?_
    refine g_get (v := .ref (α (k + 6))) S hK hP (hB0 0 _ rfl) rfl inX12 9 (by decide) qw1383 rfl dX12_value_85 ?_
    refine lv_iconst (v := 0) S.1 S.2.1 dX12_value_88 (by decide) ?_
    refine g_iald S hK hP (hB0 6 _ rfl) (by first | assumption | exact vin_d (by decide) | exact vp_in_nI (by omega) (by decide) | decide) dX12_value_89 ?_
    have hf : (f_X12_value mPpl mBts mNum mW x) = (mW 0) := if_pos k1_0
    exact g_iretR S hr hlk hS (by rw [hf] <;> rfl) dX12_value_90
  by_cases k1_1 : x = 1
  · refine lv_tableIn (tgt := 91) S.1 S.2.1 dX12_value_1 (by rw [k1_1]; decide) (by rw [k1_1]; decide) (by rw [k1_1]; rfl) (by decide) ?_
    refine lv_aload_n S.1 S.2.1 dX12_value_91 rfl (lv_at hl 0 rfl) ?_
    refine g_get (v := .ref (α (k + 6))) S hK hP (hB0 0 _ rfl) rfl inX12 9 (by decide) qw1383 rfl dX12_value_92 ?_
    refine lv_iconst (v := 0) S.1 S.2.1 dX12_value_95 (by decide) ?_
    refine g_iald S hK hP (hB0 6 _ rfl) (by first | assumption | exact vin_d (by decide) | exact vp_in_nI (by omega) (by decide) | decide) dX12_value_96 ?_
    refine lv_aload_n S.1 S.2.1 dX12_value_97 rfl (lv_at hl 0 rfl) ?_
    refine g_get (v := .ref (α (k + 2))) S hK hP (hB0 0 _ rfl) rfl inX12 3 (by decide) qw1377 rfl dX12_value_98 ?_
    refine lv_iconst (v := 0) S.1 S.2.1 dX12_value_101 (by decide) ?_
    refine g_iald S hK hP (hB0 2 _ rfl) (by first | assumption | exact vin_d (by decide) | exact vp_in_nI (by omega) (by decide) | decide) dX12_value_102 ?_
    refine lv_idiv S.1 S.2.1 dX12_value_103 (pos_ne (by assumption)) ?_
    refine lv_iconst (v := 4) S.1 S.2.1 dX12_value_104 (by decide) ?_
    refine lv_irem S.1 S.2.1 dX12_value_105 (by first | assumption | exact vin_d (by decide) | exact vp_in_nI (by omega) (by decide) | decide) ?_
    have hf : (f_X12_value mPpl mBts mNum mW x) = (((mW 0) / (mNum 0)) - ((mW 0) / (mNum 0)) / 4 * 4) := (if_neg k1_0).trans (if_pos k1_1)
    exact g_iretR S hr hlk hS (by rw [hf] <;> rfl) dX12_value_106
  by_cases k1_2 : x = 2
  · refine lv_tableIn (tgt := 107) S.1 S.2.1 dX12_value_1 (by rw [k1_2]; decide) (by rw [k1_2]; decide) (by rw [k1_2]; rfl) (by decide) ?_
    refine lv_aload_n S.1 S.2.1 dX12_value_107 rfl (lv_at hl 0 rfl) ?_
    refine g_get (v := .int mPpl) S hK hP (hB0 0 _ rfl) rfl inX12 4 (by decide) qw1378 rfl dX12_value_108 ?_
    have hf : (f_X12_value mPpl mBts mNum mW x) = mPpl := (if_neg k1_0).trans ((if_neg k1_1).trans (if_pos k1_2))
    exact g_iretR S hr hlk hS (by rw [hf] <;> rfl) dX12_value_111
  by_cases k1_3 : x = 3
  · refine lv_tableIn (tgt := 112) S.1 S.2.1 dX12_value_1 (by rw [k1_3]; decide) (by rw [k1_3]; decide) (by rw [k1_3]; rfl) (by decide) ?_
    refine lv_aload_n S.1 S.2.1 dX12_value_112 rfl (lv_at hl 0 rfl) ?_
    refine g_get (v := .int mBts) S hK hP (hB0 0 _ rfl) rfl inX12 5 (by decide) qw1379 rfl dX12_value_113 ?_
    have hf : (f_X12_value mPpl mBts mNum mW x) = mBts := (if_neg k1_0).trans ((if_neg k1_1).trans ((if_neg k1_2).trans (if_pos k1_3)))
    exact g_iretR S hr hlk hS (by rw [hf] <;> rfl) dX12_value_116
  by_cases k1_4 : x = 4
  · refine lv_tableIn (tgt := 117) S.1 S.2.1 dX12_value_1 (by rw [k1_4]; decide) (by rw [k1_4]; decide) (by rw [k1_4]; rfl) (by decide) ?_
    refine lv_aload_n S.1 S.2.1 dX12_value_117 rfl (lv_at hl 0 rfl) ?_
    refine lv_aload_n S.1 S.2.1 dX12_value_118 rfl (lv_at hl 0 rfl) ?_
    refine g_get (v := .ref (α (k + 6))) S hK hP (hB0 0 _ rfl) rfl inX12 9 (by decide) qw1383 rfl dX12_value_119 ?_
    refine lv_iconst (v := 0) S.1 S.2.1 dX12_value_122 (by decide) ?_
    refine g_iald S hK hP (hB0 6 _ rfl) (by first | assumption | exact vin_d (by decide) | exact vp_in_nI (by omega) (by decide) | decide) dX12_value_123 ?_
    refine g_aftR0 (st1 := [.int (f_X12_outOn mBts mW (mW 0))]) (g_V (As := [.int (mW 0)]) (rest := []) S mi_X12_outOn qw1700 (c_X12_outOn l D A w α (k) mTaped mErr mPpl mBts mUs mRa mSt mKi mWd mVal mLet mFin mNp mNb mOuts mWant mFnd mTape mNum mNam mFst mBnm mW mUn mSl mKp mnNum mnNam mnBo mnBn (mW 0) hB0 (by first | assumption | exact vin_d (by decide) | exact vp_in_nI (by omega) (by decide) | decide | omega)) hK hP hD hE hS (hB0 0 _ rfl) rfl rfl rfl hl.1 (Nat.le_of_ble_eq_true rfl) rfl rfl ⟨(Nat.le_of_ble_eq_true rfl), (Nat.le_of_ble_eq_true rfl)⟩ ⟨(Nat.le_of_ble_eq_true rfl), (Nat.le_of_ble_eq_true rfl)⟩ dX12_value_124) hS rfl (fun locs hS => ?_)
    have hf : (f_X12_value mPpl mBts mNum mW x) = (f_X12_outOn mBts mW (mW 0)) := (if_neg k1_0).trans ((if_neg k1_1).trans ((if_neg k1_2).trans ((if_neg k1_3).trans (if_pos k1_4))))
    exact g_iretR S hr hlk hS (by rw [hf] <;> rfl) dX12_value_127
  by_cases k1_5 : x = 5
  · refine lv_tableIn (tgt := 128) S.1 S.2.1 dX12_value_1 (by rw [k1_5]; decide) (by rw [k1_5]; decide) (by rw [k1_5]; rfl) (by decide) ?_
    refine lv_aload_n S.1 S.2.1 dX12_value_128 rfl (lv_at hl 0 rfl) ?_
    refine g_aftR0 (st1 := [.int (f_X12_atSeaMany mPpl mW)]) (g_V (As := []) (rest := []) S mi_X12_atSeaMany qw1759 (c_X12_atSeaMany l D A w α (k) mTaped mErr mPpl mBts mUs mRa mSt mKi mWd mVal mLet mFin mNp mNb mOuts mWant mFnd mTape mNum mNam mFst mBnm mW mUn mSl mKp mnNum mnNam mnBo mnBn hB0 (by first | assumption | exact vin_d (by decide) | exact vp_in_nI (by omega) (by decide) | decide | omega)) hK hP hD hE hS (hB0 0 _ rfl) rfl rfl rfl hl.1 (Nat.le_of_ble_eq_true rfl) rfl rfl ⟨(Nat.le_of_ble_eq_true rfl), (Nat.le_of_ble_eq_true rfl)⟩ ⟨(Nat.le_of_ble_eq_true rfl), (Nat.le_of_ble_eq_true rfl)⟩ dX12_value_129) hS rfl (fun locs hS => ?_)
    have hf : (f_X12_value mPpl mBts mNum mW x) = (f_X12_atSeaMany mPpl mW) := (if_neg k1_0).trans ((if_neg k1_1).trans ((if_neg k1_2).trans ((if_neg k1_3).trans ((if_neg k1_4).trans (if_pos k1_5)))))
    exact g_iretR S hr hlk hS (by rw [hf] <;> rfl) dX12_value_132
  by_cases k1_6 : x = 6
  · refine lv_tableIn (tgt := 133) S.1 S.2.1 dX12_value_1 (by rw [k1_6]; decide) (by rw [k1_6]; decide) (by rw [k1_6]; rfl) (by decide) ?_
    refine lv_aload_n S.1 S.2.1 dX12_value_133 rfl (lv_at hl 0 rfl) ?_
    refine g_aftR0 (st1 := [.int (f_X12_needNow mPpl mBts mNum mW)]) (g_V (As := []) (rest := []) S mi_X12_needNow qw1692 (c_X12_needNow l D A w α (k) mTaped mErr mPpl mBts mUs mRa mSt mKi mWd mVal mLet mFin mNp mNb mOuts mWant mFnd mTape mNum mNam mFst mBnm mW mUn mSl mKp mnNum mnNam mnBo mnBn hB0 (by first | assumption | exact vin_d (by decide) | exact vp_in_nI (by omega) (by decide) | decide | omega) (by first | assumption | exact vin_d (by decide) | exact vp_in_nI (by omega) (by decide) | decide | omega) (by first | assumption | exact vin_d (by decide) | exact vp_in_nI (by omega) (by decide) | decide | omega)) hK hP hD hE hS (hB0 0 _ rfl) rfl rfl rfl hl.1 (Nat.le_of_ble_eq_true rfl) rfl rfl ⟨(Nat.le_of_ble_eq_true rfl), (Nat.le_of_ble_eq_true rfl)⟩ ⟨(Nat.le_of_ble_eq_true rfl), (Nat.le_of_ble_eq_true rfl)⟩ dX12_value_134) hS rfl (fun locs hS => ?_)
    have hf : (f_X12_value mPpl mBts mNum mW x) = (f_X12_needNow mPpl mBts mNum mW) := (if_neg k1_0).trans ((if_neg k1_1).trans ((if_neg k1_2).trans ((if_neg k1_3).trans ((if_neg k1_4).trans ((if_neg k1_5).trans (if_pos k1_6))))))
    exact g_iretR S hr hlk hS (by rw [hf] <;> rfl) dX12_value_137
  by_cases k1_7 : x = 7
  · refine lv_tableIn (tgt := 138) S.1 S.2.1 dX12_value_1 (by rw [k1_7]; decide) (by rw [k1_7]; decide) (by rw [k1_7]; rfl) (by decide) ?_
    refine lv_aload_n S.1 S.2.1 dX12_value_138 rfl (lv_at hl 0 rfl) ?_
    refine g_aftR0 (st1 := [.int (f_X12_turnout mPpl mW)]) (g_V (As := []) (rest := []) S mi_X12_turnout qw1716 (c_X12_turnout l D A w α (k) mTaped mErr mPpl mBts mUs mRa mSt mKi mWd mVal mLet mFin mNp mNb mOuts mWant mFnd mTape mNum mNam mFst mBnm mW mUn mSl mKp mnNum mnNam mnBo mnBn hB0 (by first | assumption | exact vin_d (by decide) | exact vp_in_nI (by omega) (by decide) | decide | omega)) hK hP hD hE hS (hB0 0 _ rfl) rfl rfl rfl hl.1 (Nat.le_of_ble_eq_true rfl) rfl rfl ⟨(Nat.le_of_ble_eq_true rfl), (Nat.le_of_ble_eq_true rfl)⟩ ⟨(Nat.le_of_ble_eq_true rfl), (Nat.le_of_ble_eq_true rfl)⟩ dX12_value_139) hS rfl (fun locs hS => ?_)
    have hf : (f_X12_value mPpl mBts mNum mW x) = (f_X12_turnout mPpl mW) := (if_neg k1_0).trans ((if_neg k1_1).trans ((if_neg k1_2).trans ((if_neg k1_3).trans ((if_neg k1_4).trans ((if_neg k1_5).trans ((if_neg k1_6).trans (if_pos k1_7)))))))
    exact g_iretR S hr hlk hS (by rw [hf] <;> rfl) dX12_value_142
  by_cases k1_8 : x = 8
  · refine lv_tableIn (tgt := 143) S.1 S.2.1 dX12_value_1 (by rw [k1_8]; decide) (by rw [k1_8]; decide) (by rw [k1_8]; rfl) (by decide) ?_
    refine lv_aload_n S.1 S.2.1 dX12_value_143 rfl (lv_at hl 0 rfl) ?_
    refine g_aftR0 (st1 := [.int (f_X12_stateOf mNum mW)]) (g_V (As := []) (rest := []) S mi_X12_stateOf qw1763 (c_X12_stateOf l D A w α (k) mTaped mErr mPpl mBts mUs mRa mSt mKi mWd mVal mLet mFin mNp mNb mOuts mWant mFnd mTape mNum mNam mFst mBnm mW mUn mSl mKp mnNum mnNam mnBo mnBn hB0) hK hP hD hE hS (hB0 0 _ rfl) rfl rfl rfl hl.1 (Nat.le_of_ble_eq_true rfl) rfl rfl ⟨(Nat.le_of_ble_eq_true rfl), (Nat.le_of_ble_eq_true rfl)⟩ ⟨(Nat.le_of_ble_eq_true rfl), (Nat.le_of_ble_eq_true rfl)⟩ dX12_value_144) hS rfl (fun locs hS => ?_)
    have hf : (f_X12_value mPpl mBts mNum mW x) = (f_X12_stateOf mNum mW) := (if_neg k1_0).trans ((if_neg k1_1).trans ((if_neg k1_2).trans ((if_neg k1_3).trans ((if_neg k1_4).trans ((if_neg k1_5).trans ((if_neg k1_6).trans ((if_neg k1_7).trans (if_pos k1_8))))))))
    exact g_iretR S hr hlk hS (by rw [hf] <;> rfl) dX12_value_147
  by_cases k1_9 : x = 9
  · refine lv_tableIn (tgt := 148) S.1 S.2.1 dX12_value_1 (by rw [k1_9]; decide) (by rw [k1_9]; decide) (by rw [k1_9]; rfl) (by decide) ?_
    refine lv_aload_n S.1 S.2.1 dX12_value_148 rfl (lv_at hl 0 rfl) ?_
    refine g_get (v := .ref (α (k + 6))) S hK hP (hB0 0 _ rfl) rfl inX12 9 (by decide) qw1383 rfl dX12_value_149 ?_
    refine lv_iconst (v := 3) S.1 S.2.1 dX12_value_152 (by decide) ?_
    refine g_iald S hK hP (hB0 6 _ rfl) (by first | assumption | exact vin_d (by decide) | exact vp_in_nI (by omega) (by decide) | decide) dX12_value_153 ?_
    have hf : (f_X12_value mPpl mBts mNum mW x) = (mW 3) := (if_neg k1_0).trans ((if_neg k1_1).trans ((if_neg k1_2).trans ((if_neg k1_3).trans ((if_neg k1_4).trans ((if_neg k1_5).trans ((if_neg k1_6).trans ((if_neg k1_7).trans ((if_neg k1_8).trans (if_pos k1_9)))))))))
    exact g_iretR S hr hlk hS (by rw [hf] <;> rfl) dX12_value_154
  by_cases k1_10 : x = 10
  · refine lv_tableIn (tgt := 155) S.1 S.2.1 dX12_value_1 (by rw [k1_10]; decide) (by rw [k1_10]; decide) (by rw [k1_10]; rfl) (by decide) ?_
    refine lv_aload_n S.1 S.2.1 dX12_value_155 rfl (lv_at hl 0 rfl) ?_
    refine g_aftR0 (st1 := [.int (b2i (f_X12_isClosed mW))]) (g_V (As := []) (rest := []) S mi_X12_isClosed qw1680 (c_X12_isClosed l D A w α (k) mTaped mErr mPpl mBts mUs mRa mSt mKi mWd mVal mLet mFin mNp mNb mOuts mWant mFnd mTape mNum mNam mFst mBnm mW mUn mSl mKp mnNum mnNam mnBo mnBn hB0) hK hP hD hE hS (hB0 0 _ rfl) rfl rfl rfl hl.1 (Nat.le_of_ble_eq_true rfl) rfl rfl ⟨(Nat.le_of_ble_eq_true rfl), (Nat.le_of_ble_eq_true rfl)⟩ ⟨(Nat.le_of_ble_eq_true rfl), (Nat.le_of_ble_eq_true rfl)⟩ dX12_value_156) hS rfl (fun locs hS => ?_)
    refine g_bifeq (b := (f_X12_isClosed mW)) (tgt := 169) S dX12_value_159 (by decide) (fun (c2 : (f_X12_isClosed mW) = false) => ?_) (fun (c2 : (f_X12_isClosed mW) = true) => ?_)
    · refine lv_bipush (v := (-2)) S.1 S.2.1 dX12_value_169 (by decide) ?_
      have hf : (f_X12_value mPpl mBts mNum mW x) = (-2) := (if_neg k1_0).trans ((if_neg k1_1).trans ((if_neg k1_2).trans ((if_neg k1_3).trans ((if_neg k1_4).trans ((if_neg k1_5).trans ((if_neg k1_6).trans ((if_neg k1_7).trans ((if_neg k1_8).trans ((if_neg k1_9).trans ((if_pos k1_10).trans (cd_f c2)))))))))))
      exact g_iretR S hr hlk hS (by rw [hf] <;> rfl) dX12_value_171
    · refine lv_aload_n S.1 S.2.1 dX12_value_162 rfl (lv_at hl 0 rfl) ?_
      refine g_aftR0 (st1 := [.int (f_X12_resultNow mPpl mBts mNum mW)]) (g_V (As := []) (rest := []) S mi_X12_resultNow qw1688 (c_X12_resultNow l D A w α (k) mTaped mErr mPpl mBts mUs mRa mSt mKi mWd mVal mLet mFin mNp mNb mOuts mWant mFnd mTape mNum mNam mFst mBnm mW mUn mSl mKp mnNum mnNam mnBo mnBn hB0 (by first | assumption | exact vin_d (by decide) | exact vp_in_nI (by omega) (by decide) | decide | omega) (by first | assumption | exact vin_d (by decide) | exact vp_in_nI (by omega) (by decide) | decide | omega) (by first | assumption | exact vin_d (by decide) | exact vp_in_nI (by omega) (by decide) | decide | omega) (by first | assumption | exact vin_d (by decide) | exact vp_in_nI (by omega) (by decide) | decide | omega)) hK hP hD hE hS (hB0 0 _ rfl) rfl rfl rfl hl.1 (Nat.le_of_ble_eq_true rfl) rfl rfl ⟨(Nat.le_of_ble_eq_true rfl), (Nat.le_of_ble_eq_true rfl)⟩ ⟨(Nat.le_of_ble_eq_true rfl), (Nat.le_of_ble_eq_true rfl)⟩ dX12_value_163) hS rfl (fun locs hS => ?_)
      refine lv_goto (tgt := 171) S.1 S.2.1 dX12_value_166 (by decide) ?_
      have hf : (f_X12_value mPpl mBts mNum mW x) = (f_X12_resultNow mPpl mBts mNum mW) := (if_neg k1_0).trans ((if_neg k1_1).trans ((if_neg k1_2).trans ((if_neg k1_3).trans ((if_neg k1_4).trans ((if_neg k1_5).trans ((if_neg k1_6).trans ((if_neg k1_7).trans ((if_neg k1_8).trans ((if_neg k1_9).trans ((if_pos k1_10).trans (cd_t c2)))))))))))
      exact g_iretR S hr hlk hS (by rw [hf] <;> rfl) dX12_value_171
  by_cases k1_11 : x = 11
  · refine lv_tableIn (tgt := 172) S.1 S.2.1 dX12_value_1 (by rw [k1_11]; decide) (by rw [k1_11]; decide) (by rw [k1_11]; rfl) (by decide) ?_
    refine lv_aload_n S.1 S.2.1 dX12_value_172 rfl (lv_at hl 0 rfl) ?_
    refine g_aftR0 (st1 := [.int (f_X12_struckMany mPpl mW)]) (g_V (As := []) (rest := []) S mi_X12_struckMany qw1767 (c_X12_struckMany l D A w α (k) mTaped mErr mPpl mBts mUs mRa mSt mKi mWd mVal mLet mFin mNp mNb mOuts mWant mFnd mTape mNum mNam mFst mBnm mW mUn mSl mKp mnNum mnNam mnBo mnBn hB0 (by first | assumption | exact vin_d (by decide) | exact vp_in_nI (by omega) (by decide) | decide | omega)) hK hP hD hE hS (hB0 0 _ rfl) rfl rfl rfl hl.1 (Nat.le_of_ble_eq_true rfl) rfl rfl ⟨(Nat.le_of_ble_eq_true rfl), (Nat.le_of_ble_eq_true rfl)⟩ ⟨(Nat.le_of_ble_eq_true rfl), (Nat.le_of_ble_eq_true rfl)⟩ dX12_value_173) hS rfl (fun locs hS => ?_)
    have hf : (f_X12_value mPpl mBts mNum mW x) = (f_X12_struckMany mPpl mW) := (if_neg k1_0).trans ((if_neg k1_1).trans ((if_neg k1_2).trans ((if_neg k1_3).trans ((if_neg k1_4).trans ((if_neg k1_5).trans ((if_neg k1_6).trans ((if_neg k1_7).trans ((if_neg k1_8).trans ((if_neg k1_9).trans ((if_neg k1_10).trans (if_pos k1_11)))))))))))
    exact g_iretR S hr hlk hS (by rw [hf] <;> rfl) dX12_value_176
  by_cases k1_12 : x = 12
  · refine lv_tableIn (tgt := 177) S.1 S.2.1 dX12_value_1 (by rw [k1_12]; decide) (by rw [k1_12]; decide) (by rw [k1_12]; rfl) (by decide) ?_
    refine lv_aload_n S.1 S.2.1 dX12_value_177 rfl (lv_at hl 0 rfl) ?_
    refine g_get (v := .ref (α (k + 6))) S hK hP (hB0 0 _ rfl) rfl inX12 9 (by decide) qw1383 rfl dX12_value_178 ?_
    refine lv_bipush (v := 6) S.1 S.2.1 dX12_value_181 (by decide) ?_
    refine g_iald S hK hP (hB0 6 _ rfl) (by first | assumption | exact vin_d (by decide) | exact vp_in_nI (by omega) (by decide) | decide) dX12_value_183 ?_
    have hf : (f_X12_value mPpl mBts mNum mW x) = (mW 6) := (if_neg k1_0).trans ((if_neg k1_1).trans ((if_neg k1_2).trans ((if_neg k1_3).trans ((if_neg k1_4).trans ((if_neg k1_5).trans ((if_neg k1_6).trans ((if_neg k1_7).trans ((if_neg k1_8).trans ((if_neg k1_9).trans ((if_neg k1_10).trans ((if_neg k1_11).trans (if_pos k1_12))))))))))))
    exact g_iretR S hr hlk hS (by rw [hf] <;> rfl) dX12_value_184
  by_cases k1_13 : x = 13
  · refine lv_tableIn (tgt := 185) S.1 S.2.1 dX12_value_1 (by rw [k1_13]; decide) (by rw [k1_13]; decide) (by rw [k1_13]; rfl) (by decide) ?_
    refine lv_aload_n S.1 S.2.1 dX12_value_185 rfl (lv_at hl 0 rfl) ?_
    refine g_get (v := .ref (α (k + 6))) S hK hP (hB0 0 _ rfl) rfl inX12 9 (by decide) qw1383 rfl dX12_value_186 ?_
    refine lv_iconst (v := 1) S.1 S.2.1 dX12_value_189 (by decide) ?_
    refine g_iald S hK hP (hB0 6 _ rfl) (by first | assumption | exact vin_d (by decide) | exact vp_in_nI (by omega) (by decide) | decide) dX12_value_190 ?_
    have hf : (f_X12_value mPpl mBts mNum mW x) = (mW 1) := (if_neg k1_0).trans ((if_neg k1_1).trans ((if_neg k1_2).trans ((if_neg k1_3).trans ((if_neg k1_4).trans ((if_neg k1_5).trans ((if_neg k1_6).trans ((if_neg k1_7).trans ((if_neg k1_8).trans ((if_neg k1_9).trans ((if_neg k1_10).trans ((if_neg k1_11).trans ((if_neg k1_12).trans (if_pos k1_13)))))))))))))
    exact g_iretR S hr hlk hS (by rw [hf] <;> rfl) dX12_value_191
  by_cases k1_14 : x = 14
  · refine lv_tableIn (tgt := 192) S.1 S.2.1 dX12_value_1 (by rw [k1_14]; decide) (by rw [k1_14]; decide) (by rw [k1_14]; rfl) (by decide) ?_
    refine lv_aload_n S.1 S.2.1 dX12_value_192 rfl (lv_at hl 0 rfl) ?_
    refine g_get (v := .ref (α (k + 6))) S hK hP (hB0 0 _ rfl) rfl inX12 9 (by decide) qw1383 rfl dX12_value_193 ?_
    refine lv_bipush (v := 8) S.1 S.2.1 dX12_value_196 (by decide) ?_
    refine g_iald S hK hP (hB0 6 _ rfl) (by first | assumption | exact vin_d (by decide) | exact vp_in_nI (by omega) (by decide) | decide) dX12_value_198 ?_
    have hf : (f_X12_value mPpl mBts mNum mW x) = (mW 8) := (if_neg k1_0).trans ((if_neg k1_1).trans ((if_neg k1_2).trans ((if_neg k1_3).trans ((if_neg k1_4).trans ((if_neg k1_5).trans ((if_neg k1_6).trans ((if_neg k1_7).trans ((if_neg k1_8).trans ((if_neg k1_9).trans ((if_neg k1_10).trans ((if_neg k1_11).trans ((if_neg k1_12).trans ((if_neg k1_13).trans (if_pos k1_14))))))))))))))
    exact g_iretR S hr hlk hS (by rw [hf] <;> rfl) dX12_value_199
  by_cases k1_15 : x = 15
  · refine lv_tableIn (tgt := 200) S.1 S.2.1 dX12_value_1 (by rw [k1_15]; decide) (by rw [k1_15]; decide) (by rw [k1_15]; rfl) (by decide) ?_
    refine lv_aload_n S.1 S.2.1 dX12_value_200 rfl (lv_at hl 0 rfl) ?_
    refine g_get (v := .int mPpl) S hK hP (hB0 0 _ rfl) rfl inX12 4 (by decide) qw1378 rfl dX12_value_201 ?_
    refine lv_aload_n S.1 S.2.1 dX12_value_204 rfl (lv_at hl 0 rfl) ?_
    refine g_aftR0 (st1 := [.int (f_X12_atSeaMany mPpl mW), .int mPpl]) (g_V (As := []) (rest := [.int mPpl]) S mi_X12_atSeaMany qw1759 (c_X12_atSeaMany l D A w α (k) mTaped mErr mPpl mBts mUs mRa mSt mKi mWd mVal mLet mFin mNp mNb mOuts mWant mFnd mTape mNum mNam mFst mBnm mW mUn mSl mKp mnNum mnNam mnBo mnBn hB0 (by first | assumption | exact vin_d (by decide) | exact vp_in_nI (by omega) (by decide) | decide | omega)) hK hP hD hE hS (hB0 0 _ rfl) rfl rfl rfl hl.1 (Nat.le_of_ble_eq_true rfl) rfl rfl ⟨(Nat.le_of_ble_eq_true rfl), (Nat.le_of_ble_eq_true rfl)⟩ ⟨(Nat.le_of_ble_eq_true rfl), (Nat.le_of_ble_eq_true rfl)⟩ dX12_value_205) hS rfl (fun locs hS => ?_)
    refine lv_isub S.1 S.2.1 dX12_value_208 ?_
    have hf : (f_X12_value mPpl mBts mNum mW x) = (mPpl - (f_X12_atSeaMany mPpl mW)) := (if_neg k1_0).trans ((if_neg k1_1).trans ((if_neg k1_2).trans ((if_neg k1_3).trans ((if_neg k1_4).trans ((if_neg k1_5).trans ((if_neg k1_6).trans ((if_neg k1_7).trans ((if_neg k1_8).trans ((if_neg k1_9).trans ((if_neg k1_10).trans ((if_neg k1_11).trans ((if_neg k1_12).trans ((if_neg k1_13).trans ((if_neg k1_14).trans (if_pos k1_15)))))))))))))))
    exact g_iretR S hr hlk hS (by rw [hf] <;> rfl) dX12_value_209
  by_cases k1_16 : x = 16
  · refine lv_tableIn (tgt := 210) S.1 S.2.1 dX12_value_1 (by rw [k1_16]; decide) (by rw [k1_16]; decide) (by rw [k1_16]; rfl) (by decide) ?_
    refine lv_aload_n S.1 S.2.1 dX12_value_210 rfl (lv_at hl 0 rfl) ?_
    refine g_aftR0 (st1 := [.int (f_X12_wrongSet mPpl mW)]) (g_V (As := []) (rest := []) S mi_X12_wrongSet qw1735 (c_X12_wrongSet l D A w α (k) mTaped mErr mPpl mBts mUs mRa mSt mKi mWd mVal mLet mFin mNp mNb mOuts mWant mFnd mTape mNum mNam mFst mBnm mW mUn mSl mKp mnNum mnNam mnBo mnBn hB0 (by first | assumption | exact vin_d (by decide) | exact vp_in_nI (by omega) (by decide) | decide | omega)) hK hP hD hE hS (hB0 0 _ rfl) rfl rfl rfl hl.1 (Nat.le_of_ble_eq_true rfl) rfl rfl ⟨(Nat.le_of_ble_eq_true rfl), (Nat.le_of_ble_eq_true rfl)⟩ ⟨(Nat.le_of_ble_eq_true rfl), (Nat.le_of_ble_eq_true rfl)⟩ dX12_value_211) hS rfl (fun locs hS => ?_)
    refine g_aftR0 (st1 := [.int (f_X12_ones (f_X12_wrongSet mPpl mW))]) (g_St (As := [.int (f_X12_wrongSet mPpl mW)]) (rest := []) S ms_X12_ones qw1645 (c_X12_ones l D A w α (f_X12_wrongSet mPpl mW)) hK hP hD hE hS rfl rfl hl.1 (Nat.le_of_ble_eq_true rfl) rfl rfl ⟨(Nat.le_of_ble_eq_true rfl), (Nat.le_of_ble_eq_true rfl)⟩ ⟨(Nat.le_of_ble_eq_true rfl), (Nat.le_of_ble_eq_true rfl)⟩ dX12_value_214) hS rfl (fun locs hS => ?_)
    have hf : (f_X12_value mPpl mBts mNum mW x) = (f_X12_ones (f_X12_wrongSet mPpl mW)) := (if_neg k1_0).trans ((if_neg k1_1).trans ((if_neg k1_2).trans ((if_neg k1_3).trans ((if_neg k1_4).trans ((if_neg k1_5).trans ((if_neg k1_6).trans ((if_neg k1_7).trans ((if_neg k1_8).trans ((if_neg k1_9).trans ((if_neg k1_10).trans ((if_neg k1_11).trans ((if_neg k1_12).trans ((if_neg k1_13).trans ((if_neg k1_14).trans ((if_neg k1_15).trans (if_pos k1_16))))))))))))))))
    exact g_iretR S hr hlk hS (by rw [hf] <;> rfl) dX12_value_217
  have hout : x.toInt < (0 : Int) ∨ (16 : Int) < x.toInt := sw_out (lo := 0) (n := 17) (by decide) (fun i hi => by match i, hi with | 0, _ => exact k1_0 | 1, _ => exact k1_1 | 2, _ => exact k1_2 | 3, _ => exact k1_3 | 4, _ => exact k1_4 | 5, _ => exact k1_5 | 6, _ => exact k1_6 | 7, _ => exact k1_7 | 8, _ => exact k1_8 | 9, _ => exact k1_9 | 10, _ => exact k1_10 | 11, _ => exact k1_11 | 12, _ => exact k1_12 | 13, _ => exact k1_13 | 14, _ => exact k1_14 | 15, _ => exact k1_15 | 16, _ => exact k1_16 | i + 17, h => exact absurd h (by omega))
  refine lv_tableOut (tgt := 218) S.1 S.2.1 dX12_value_1 hout (by decide) ?_
  refine lv_iconst (v := (-1)) S.1 S.2.1 dX12_value_218 (by decide) ?_
  have hf : (f_X12_value mPpl mBts mNum mW x) = (-1) := (if_neg k1_0).trans ((if_neg k1_1).trans ((if_neg k1_2).trans ((if_neg k1_3).trans ((if_neg k1_4).trans ((if_neg k1_5).trans ((if_neg k1_6).trans ((if_neg k1_7).trans ((if_neg k1_8).trans ((if_neg k1_9).trans ((if_neg k1_10).trans ((if_neg k1_11).trans ((if_neg k1_12).trans ((if_neg k1_13).trans ((if_neg k1_14).trans ((if_neg k1_15).trans (if_neg k1_16))))))))))))))))
  exact g_iretR S hr hlk hS (by rw [hf] <;> rfl) dX12_value_219
def f_X12_person (mPpl : Int32) (mW : Nat → Int32) (p : Int32) (x : Int32) : Int32 := (bif (f_X12_isPerson mPpl p) then (if x = 0 then (f_X12_of mW p 0) else (if x = 1 then (bif (f_X12_isAtSea mW p) then 1 else 0) else (if x = 2 then (bif (f_X12_isAtSea mW p) then (f_X12_ofBoat mW (f_X12_of mW p 1) 1) else (mW 0)) else (if x = 3 then (f_X12_of mW p 2) else (if x = 4 then (f_X12_ones (f_X12_carriedBy mPpl mW p)) else (if x = 5 then (f_X12_of mW p 4) else (if x = 6 then (f_X12_of mW p 3) else (-1)))))))) else (-1))
set_option maxHeartbeats 4000000 in
set_option maxRecDepth 100000 in
theorem c_X12_person (l : Launch) (D : va_G) (A : Nat → Prop) (w : va_W) (α : Nat → Nat) (k : Nat) (mTaped : Int32) (mErr : Int32) (mPpl : Int32) (mBts : Int32) (mUs : Int32) (mRa : Int32) (mSt : Int32) (mKi : Int32) (mWd : Int64) (mVal : Int32) (mLet : Int32) (mFin : Int32) (mNp : Int32) (mNb : Int32) (mOuts : Int32) (mWant : Int32) (mFnd : Int32) (mTape : Nat → Int32) (mNum : Nat → Int32) (mNam : Nat → Int32) (mFst : Nat → Int32) (mBnm : Nat → Int32) (mW : Nat → Int32) (mUn : Nat → Int32) (mSl : Nat → Int32) (mKp : Nat → Int32) (mnNum : Nat → Int32) (mnNam : Nat → Int32) (mnBo : Nat → Int32) (mnBn : Nat → Int32) (p : Int32) (x : Int32) (hB0 : Blk w k (cM D α k mTaped mErr mPpl mBts mUs mRa mSt mKi mWd mVal mLet mFin mNp mNb mOuts mWant mFnd mTape mNum mNam mFst mBnm mW mUn mSl mKp mnNum mnNam mnBo mnBn)) (hy0 : vp_in mPpl 21) (hy1 : ∀ q, vp_in q 20 → f_X12_of mW q 1 < 6) : Met l yX12_person (ws_ yX12_person cX12_person 3 (some .int)) ({ frames := 2, cells := 0, slots := 0, locals := 46 }) (gPre D A [.ref (α (k)), .int p, .int x] w) (gR (some (.int (f_X12_person mPpl mW p x)))) 0 0 A := by
  refine g_met [(0, .ref (α (k))), (1, .int p), (2, .int x)] (plainFor_of_name (by decide)) (Nat.le_of_ble_eq_true rfl) rfl (fun pg en s mi ar below me co ls S hK hP hD hE hS hr hlk hnm hl => ?_)
  refine lv_aload_n S.1 S.2.1 dX12_person_0 rfl (lv_at hl 0 rfl) ?_
  refine lv_iload_n S.1 S.2.1 dX12_person_1 rfl (lv_at hl 1 rfl) ?_
  refine g_aftR0 (st1 := [.int (b2i (f_X12_isPerson mPpl p))]) (g_V (As := [.int p]) (rest := []) S mi_X12_isPerson qw1611 (c_X12_isPerson l D A w α (k) mTaped mErr mPpl mBts mUs mRa mSt mKi mWd mVal mLet mFin mNp mNb mOuts mWant mFnd mTape mNum mNam mFst mBnm mW mUn mSl mKp mnNum mnNam mnBo mnBn p hB0) hK hP hD hE hS (hB0 0 _ rfl) rfl rfl rfl hl.1 (Nat.le_of_ble_eq_true rfl) rfl rfl ⟨(Nat.le_of_ble_eq_true rfl), (Nat.le_of_ble_eq_true rfl)⟩ ⟨(Nat.le_of_ble_eq_true rfl), (Nat.le_of_ble_eq_true rfl)⟩ dX12_person_2) hS rfl (fun locs hS => ?_)
  refine g_bifne (b := (f_X12_isPerson mPpl p)) (tgt := 10) S dX12_person_5 (by decide) (fun (c1 : (f_X12_isPerson mPpl p) = true) => ?_) (fun (c1 : (f_X12_isPerson mPpl p) = false) => ?_)
  · have hh1 := isPerson_in (by assumption) c1
    refine lv_iload_n S.1 S.2.1 dX12_person_10 rfl (lv_at hl 2 rfl) ?_
    by_cases k2_0 : x = 0
    · refine lv_tableIn (tgt := 52) S.1 S.2.1 dX12_person_11 (by rw [k2_0]; decide) (by rw [k2_0]; decide) (by rw [k2_0]; rfl) (by decide) ?_
      refine lv_aload_n S.1 S.2.1 dX12_person_52 rfl (lv_at hl 0 rfl) ?_
      refine lv_iload_n S.1 S.2.1 dX12_person_53 rfl (lv_at hl 1 rfl) ?_
      refine lv_iconst (v := 0) S.1 S.2.1 dX12_person_54 (by decide) ?_
      refine g_aftR0 (st1 := [.int (f_X12_of mW p 0)]) (g_V (As := [.int p, .int 0]) (rest := []) S mi_X12_of qw1579 (c_X12_of l D A w α (k) mTaped mErr mPpl mBts mUs mRa mSt mKi mWd mVal mLet mFin mNp mNb mOuts mWant mFnd mTape mNum mNam mFst mBnm mW mUn mSl mKp mnNum mnNam mnBo mnBn p 0 hB0 (by first | assumption | exact vin_d (by decide) | exact vp_in_nI (by omega) (by decide) | decide | omega) (by first | assumption | exact vin_d (by decide) | exact vp_in_nI (by omega) (by decide) | decide | omega)) hK hP hD hE hS (hB0 0 _ rfl) rfl rfl rfl hl.1 (Nat.le_of_ble_eq_true rfl) rfl rfl ⟨(Nat.le_of_ble_eq_true rfl), (Nat.le_of_ble_eq_true rfl)⟩ ⟨(Nat.le_of_ble_eq_true rfl), (Nat.le_of_ble_eq_true rfl)⟩ dX12_person_55) hS rfl (fun locs hS => ?_)
      have hf : (f_X12_person mPpl mW p x) = (f_X12_of mW p 0) := (cd_t c1).trans (if_pos k2_0)
      exact g_iretR S hr hlk hS (by rw [hf] <;> rfl) dX12_person_58
    by_cases k2_1 : x = 1
    · refine lv_tableIn (tgt := 59) S.1 S.2.1 dX12_person_11 (by rw [k2_1]; decide) (by rw [k2_1]; decide) (by rw [k2_1]; rfl) (by decide) ?_
      refine lv_aload_n S.1 S.2.1 dX12_person_59 rfl (lv_at hl 0 rfl) ?_
      refine lv_iload_n S.1 S.2.1 dX12_person_60 rfl (lv_at hl 1 rfl) ?_
      refine g_aftR0 (st1 := [.int (b2i (f_X12_isAtSea mW p))]) (g_V (As := [.int p]) (rest := []) S mi_X12_isAtSea qw1583 (c_X12_isAtSea l D A w α (k) mTaped mErr mPpl mBts mUs mRa mSt mKi mWd mVal mLet mFin mNp mNb mOuts mWant mFnd mTape mNum mNam mFst mBnm mW mUn mSl mKp mnNum mnNam mnBo mnBn p hB0 (by first | assumption | exact vin_d (by decide) | exact vp_in_nI (by omega) (by decide) | decide | omega)) hK hP hD hE hS (hB0 0 _ rfl) rfl rfl rfl hl.1 (Nat.le_of_ble_eq_true rfl) rfl rfl ⟨(Nat.le_of_ble_eq_true rfl), (Nat.le_of_ble_eq_true rfl)⟩ ⟨(Nat.le_of_ble_eq_true rfl), (Nat.le_of_ble_eq_true rfl)⟩ dX12_person_61) hS rfl (fun locs hS => ?_)
      refine g_bifeq (b := (f_X12_isAtSea mW p)) (tgt := 71) S dX12_person_64 (by decide) (fun (c3 : (f_X12_isAtSea mW p) = false) => ?_) (fun (c3 : (f_X12_isAtSea mW p) = true) => ?_)
      · refine lv_iconst (v := 0) S.1 S.2.1 dX12_person_71 (by decide) ?_
        have hf : (f_X12_person mPpl mW p x) = 0 := (cd_t c1).trans ((if_neg k2_0).trans ((if_pos k2_1).trans (cd_f c3)))
        exact g_iretR S hr hlk hS (by rw [hf] <;> rfl) dX12_person_72
      · refine lv_iconst (v := 1) S.1 S.2.1 dX12_person_67 (by decide) ?_
        refine lv_goto (tgt := 72) S.1 S.2.1 dX12_person_68 (by decide) ?_
        have hf : (f_X12_person mPpl mW p x) = 1 := (cd_t c1).trans ((if_neg k2_0).trans ((if_pos k2_1).trans (cd_t c3)))
        exact g_iretR S hr hlk hS (by rw [hf] <;> rfl) dX12_person_72
    by_cases k2_2 : x = 2
    · refine lv_tableIn (tgt := 73) S.1 S.2.1 dX12_person_11 (by rw [k2_2]; decide) (by rw [k2_2]; decide) (by rw [k2_2]; rfl) (by decide) ?_
      refine lv_aload_n S.1 S.2.1 dX12_person_73 rfl (lv_at hl 0 rfl) ?_
      refine lv_iload_n S.1 S.2.1 dX12_person_74 rfl (lv_at hl 1 rfl) ?_
      refine g_aftR0 (st1 := [.int (b2i (f_X12_isAtSea mW p))]) (g_V (As := [.int p]) (rest := []) S mi_X12_isAtSea qw1583 (c_X12_isAtSea l D A w α (k) mTaped mErr mPpl mBts mUs mRa mSt mKi mWd mVal mLet mFin mNp mNb mOuts mWant mFnd mTape mNum mNam mFst mBnm mW mUn mSl mKp mnNum mnNam mnBo mnBn p hB0 (by first | assumption | exact vin_d (by decide) | exact vp_in_nI (by omega) (by decide) | decide | omega)) hK hP hD hE hS (hB0 0 _ rfl) rfl rfl rfl hl.1 (Nat.le_of_ble_eq_true rfl) rfl rfl ⟨(Nat.le_of_ble_eq_true rfl), (Nat.le_of_ble_eq_true rfl)⟩ ⟨(Nat.le_of_ble_eq_true rfl), (Nat.le_of_ble_eq_true rfl)⟩ dX12_person_75) hS rfl (fun locs hS => ?_)
      refine g_bifeq (b := (f_X12_isAtSea mW p)) (tgt := 95) S dX12_person_78 (by decide) (fun (c4 : (f_X12_isAtSea mW p) = false) => ?_) (fun (c4 : (f_X12_isAtSea mW p) = true) => ?_)
      · refine lv_aload_n S.1 S.2.1 dX12_person_95 rfl (lv_at hl 0 rfl) ?_
        refine g_get (v := .ref (α (k + 6))) S hK hP (hB0 0 _ rfl) rfl inX12 9 (by decide) qw1383 rfl dX12_person_96 ?_
        refine lv_iconst (v := 0) S.1 S.2.1 dX12_person_99 (by decide) ?_
        refine g_iald S hK hP (hB0 6 _ rfl) (by first | assumption | exact vin_d (by decide) | exact vp_in_nI (by omega) (by decide) | decide) dX12_person_100 ?_
        have hf : (f_X12_person mPpl mW p x) = (mW 0) := (cd_t c1).trans ((if_neg k2_0).trans ((if_neg k2_1).trans ((if_pos k2_2).trans (cd_f c4))))
        exact g_iretR S hr hlk hS (by rw [hf] <;> rfl) dX12_person_101
      · refine lv_aload_n S.1 S.2.1 dX12_person_81 rfl (lv_at hl 0 rfl) ?_
        refine lv_aload_n S.1 S.2.1 dX12_person_82 rfl (lv_at hl 0 rfl) ?_
        refine lv_iload_n S.1 S.2.1 dX12_person_83 rfl (lv_at hl 1 rfl) ?_
        refine lv_iconst (v := 1) S.1 S.2.1 dX12_person_84 (by decide) ?_
        refine g_aftR0 (st1 := [.int (f_X12_of mW p 1), .ref (α (k))]) (g_V (As := [.int p, .int 1]) (rest := [.ref (α (k))]) S mi_X12_of qw1579 (c_X12_of l D A w α (k) mTaped mErr mPpl mBts mUs mRa mSt mKi mWd mVal mLet mFin mNp mNb mOuts mWant mFnd mTape mNum mNam mFst mBnm mW mUn mSl mKp mnNum mnNam mnBo mnBn p 1 hB0 (by first | assumption | exact vin_d (by decide) | exact vp_in_nI (by omega) (by decide) | decide | omega) (by first | assumption | exact vin_d (by decide) | exact vp_in_nI (by omega) (by decide) | decide | omega)) hK hP hD hE hS (hB0 0 _ rfl) rfl rfl rfl hl.1 (Nat.le_of_ble_eq_true rfl) rfl rfl ⟨(Nat.le_of_ble_eq_true rfl), (Nat.le_of_ble_eq_true rfl)⟩ ⟨(Nat.le_of_ble_eq_true rfl), (Nat.le_of_ble_eq_true rfl)⟩ dX12_person_85) hS rfl (fun locs hS => ?_)
        refine lv_iconst (v := 1) S.1 S.2.1 dX12_person_88 (by decide) ?_
        refine g_aftR0 (st1 := [.int (f_X12_ofBoat mW (f_X12_of mW p 1) 1)]) (g_V (As := [.int (f_X12_of mW p 1), .int 1]) (rest := []) S mi_X12_ofBoat qw1571 (c_X12_ofBoat l D A w α (k) mTaped mErr mPpl mBts mUs mRa mSt mKi mWd mVal mLet mFin mNp mNb mOuts mWant mFnd mTape mNum mNam mFst mBnm mW mUn mSl mKp mnNum mnNam mnBo mnBn (f_X12_of mW p 1) 1 hB0 (by exact sea_in (by assumption) (by assumption) (by assumption)) (by first | assumption | exact vin_d (by decide) | exact vp_in_nI (by omega) (by decide) | decide | omega)) hK hP hD hE hS (hB0 0 _ rfl) rfl rfl rfl hl.1 (Nat.le_of_ble_eq_true rfl) rfl rfl ⟨(Nat.le_of_ble_eq_true rfl), (Nat.le_of_ble_eq_true rfl)⟩ ⟨(Nat.le_of_ble_eq_true rfl), (Nat.le_of_ble_eq_true rfl)⟩ dX12_person_89) hS rfl (fun locs hS => ?_)
        refine lv_goto (tgt := 101) S.1 S.2.1 dX12_person_92 (by decide) ?_
        have hf : (f_X12_person mPpl mW p x) = (f_X12_ofBoat mW (f_X12_of mW p 1) 1) := (cd_t c1).trans ((if_neg k2_0).trans ((if_neg k2_1).trans ((if_pos k2_2).trans (cd_t c4))))
        exact g_iretR S hr hlk hS (by rw [hf] <;> rfl) dX12_person_101
    by_cases k2_3 : x = 3
    · refine lv_tableIn (tgt := 102) S.1 S.2.1 dX12_person_11 (by rw [k2_3]; decide) (by rw [k2_3]; decide) (by rw [k2_3]; rfl) (by decide) ?_
      refine lv_aload_n S.1 S.2.1 dX12_person_102 rfl (lv_at hl 0 rfl) ?_
      refine lv_iload_n S.1 S.2.1 dX12_person_103 rfl (lv_at hl 1 rfl) ?_
      refine lv_iconst (v := 2) S.1 S.2.1 dX12_person_104 (by decide) ?_
      refine g_aftR0 (st1 := [.int (f_X12_of mW p 2)]) (g_V (As := [.int p, .int 2]) (rest := []) S mi_X12_of qw1579 (c_X12_of l D A w α (k) mTaped mErr mPpl mBts mUs mRa mSt mKi mWd mVal mLet mFin mNp mNb mOuts mWant mFnd mTape mNum mNam mFst mBnm mW mUn mSl mKp mnNum mnNam mnBo mnBn p 2 hB0 (by first | assumption | exact vin_d (by decide) | exact vp_in_nI (by omega) (by decide) | decide | omega) (by first | assumption | exact vin_d (by decide) | exact vp_in_nI (by omega) (by decide) | decide | omega)) hK hP hD hE hS (hB0 0 _ rfl) rfl rfl rfl hl.1 (Nat.le_of_ble_eq_true rfl) rfl rfl ⟨(Nat.le_of_ble_eq_true rfl), (Nat.le_of_ble_eq_true rfl)⟩ ⟨(Nat.le_of_ble_eq_true rfl), (Nat.le_of_ble_eq_true rfl)⟩ dX12_person_105) hS rfl (fun locs hS => ?_)
      have hf : (f_X12_person mPpl mW p x) = (f_X12_of mW p 2) := (cd_t c1).trans ((if_neg k2_0).trans ((if_neg k2_1).trans ((if_neg k2_2).trans (if_pos k2_3))))
      exact g_iretR S hr hlk hS (by rw [hf] <;> rfl) dX12_person_108
    by_cases k2_4 : x = 4
    · refine lv_tableIn (tgt := 109) S.1 S.2.1 dX12_person_11 (by rw [k2_4]; decide) (by rw [k2_4]; decide) (by rw [k2_4]; rfl) (by decide) ?_
      refine lv_aload_n S.1 S.2.1 dX12_person_109 rfl (lv_at hl 0 rfl) ?_
      refine lv_iload_n S.1 S.2.1 dX12_person_110 rfl (lv_at hl 1 rfl) ?_
      refine g_aftR0 (st1 := [.int (f_X12_carriedBy mPpl mW p)]) (g_V (As := [.int p]) (rest := []) S mi_X12_carriedBy qw1641 (c_X12_carriedBy l D A w α (k) mTaped mErr mPpl mBts mUs mRa mSt mKi mWd mVal mLet mFin mNp mNb mOuts mWant mFnd mTape mNum mNam mFst mBnm mW mUn mSl mKp mnNum mnNam mnBo mnBn p hB0 (by first | assumption | exact vin_d (by decide) | exact vp_in_nI (by omega) (by decide) | decide | omega)) hK hP hD hE hS (hB0 0 _ rfl) rfl rfl rfl hl.1 (Nat.le_of_ble_eq_true rfl) rfl rfl ⟨(Nat.le_of_ble_eq_true rfl), (Nat.le_of_ble_eq_true rfl)⟩ ⟨(Nat.le_of_ble_eq_true rfl), (Nat.le_of_ble_eq_true rfl)⟩ dX12_person_111) hS rfl (fun locs hS => ?_)
      refine g_aftR0 (st1 := [.int (f_X12_ones (f_X12_carriedBy mPpl mW p))]) (g_St (As := [.int (f_X12_carriedBy mPpl mW p)]) (rest := []) S ms_X12_ones qw1645 (c_X12_ones l D A w α (f_X12_carriedBy mPpl mW p)) hK hP hD hE hS rfl rfl hl.1 (Nat.le_of_ble_eq_true rfl) rfl rfl ⟨(Nat.le_of_ble_eq_true rfl), (Nat.le_of_ble_eq_true rfl)⟩ ⟨(Nat.le_of_ble_eq_true rfl), (Nat.le_of_ble_eq_true rfl)⟩ dX12_person_114) hS rfl (fun locs hS => ?_)
      have hf : (f_X12_person mPpl mW p x) = (f_X12_ones (f_X12_carriedBy mPpl mW p)) := (cd_t c1).trans ((if_neg k2_0).trans ((if_neg k2_1).trans ((if_neg k2_2).trans ((if_neg k2_3).trans (if_pos k2_4)))))
      exact g_iretR S hr hlk hS (by rw [hf] <;> rfl) dX12_person_117
    by_cases k2_5 : x = 5
    · refine lv_tableIn (tgt := 118) S.1 S.2.1 dX12_person_11 (by rw [k2_5]; decide) (by rw [k2_5]; decide) (by rw [k2_5]; rfl) (by decide) ?_
      refine lv_aload_n S.1 S.2.1 dX12_person_118 rfl (lv_at hl 0 rfl) ?_
      refine lv_iload_n S.1 S.2.1 dX12_person_119 rfl (lv_at hl 1 rfl) ?_
      refine lv_iconst (v := 4) S.1 S.2.1 dX12_person_120 (by decide) ?_
      refine g_aftR0 (st1 := [.int (f_X12_of mW p 4)]) (g_V (As := [.int p, .int 4]) (rest := []) S mi_X12_of qw1579 (c_X12_of l D A w α (k) mTaped mErr mPpl mBts mUs mRa mSt mKi mWd mVal mLet mFin mNp mNb mOuts mWant mFnd mTape mNum mNam mFst mBnm mW mUn mSl mKp mnNum mnNam mnBo mnBn p 4 hB0 (by first | assumption | exact vin_d (by decide) | exact vp_in_nI (by omega) (by decide) | decide | omega) (by first | assumption | exact vin_d (by decide) | exact vp_in_nI (by omega) (by decide) | decide | omega)) hK hP hD hE hS (hB0 0 _ rfl) rfl rfl rfl hl.1 (Nat.le_of_ble_eq_true rfl) rfl rfl ⟨(Nat.le_of_ble_eq_true rfl), (Nat.le_of_ble_eq_true rfl)⟩ ⟨(Nat.le_of_ble_eq_true rfl), (Nat.le_of_ble_eq_true rfl)⟩ dX12_person_121) hS rfl (fun locs hS => ?_)
      have hf : (f_X12_person mPpl mW p x) = (f_X12_of mW p 4) := (cd_t c1).trans ((if_neg k2_0).trans ((if_neg k2_1).trans ((if_neg k2_2).trans ((if_neg k2_3).trans ((if_neg k2_4).trans (if_pos k2_5))))))
      exact g_iretR S hr hlk hS (by rw [hf] <;> rfl) dX12_person_124
    by_cases k2_6 : x = 6
    · refine lv_tableIn (tgt := 125) S.1 S.2.1 dX12_person_11 (by rw [k2_6]; decide) (by rw [k2_6]; decide) (by rw [k2_6]; rfl) (by decide) ?_
      refine lv_aload_n S.1 S.2.1 dX12_person_125 rfl (lv_at hl 0 rfl) ?_
      refine lv_iload_n S.1 S.2.1 dX12_person_126 rfl (lv_at hl 1 rfl) ?_
      refine lv_iconst (v := 3) S.1 S.2.1 dX12_person_127 (by decide) ?_
      refine g_aftR0 (st1 := [.int (f_X12_of mW p 3)]) (g_V (As := [.int p, .int 3]) (rest := []) S mi_X12_of qw1579 (c_X12_of l D A w α (k) mTaped mErr mPpl mBts mUs mRa mSt mKi mWd mVal mLet mFin mNp mNb mOuts mWant mFnd mTape mNum mNam mFst mBnm mW mUn mSl mKp mnNum mnNam mnBo mnBn p 3 hB0 (by first | assumption | exact vin_d (by decide) | exact vp_in_nI (by omega) (by decide) | decide | omega) (by first | assumption | exact vin_d (by decide) | exact vp_in_nI (by omega) (by decide) | decide | omega)) hK hP hD hE hS (hB0 0 _ rfl) rfl rfl rfl hl.1 (Nat.le_of_ble_eq_true rfl) rfl rfl ⟨(Nat.le_of_ble_eq_true rfl), (Nat.le_of_ble_eq_true rfl)⟩ ⟨(Nat.le_of_ble_eq_true rfl), (Nat.le_of_ble_eq_true rfl)⟩ dX12_person_128) hS rfl (fun locs hS => ?_)
      have hf : (f_X12_person mPpl mW p x) = (f_X12_of mW p 3) := (cd_t c1).trans ((if_neg k2_0).trans ((if_neg k2_1).trans ((if_neg k2_2).trans ((if_neg k2_3).trans ((if_neg k2_4).trans ((if_neg k2_5).trans (if_pos k2_6)))))))
      exact g_iretR S hr hlk hS (by rw [hf] <;> rfl) dX12_person_131
    have hout : x.toInt < (0 : Int) ∨ (6 : Int) < x.toInt := sw_out (lo := 0) (n := 7) (by decide) (fun i hi => by match i, hi with | 0, _ => exact k2_0 | 1, _ => exact k2_1 | 2, _ => exact k2_2 | 3, _ => exact k2_3 | 4, _ => exact k2_4 | 5, _ => exact k2_5 | 6, _ => exact k2_6 | i + 7, h => exact absurd h (by omega))
    refine lv_tableOut (tgt := 132) S.1 S.2.1 dX12_person_11 hout (by decide) ?_
    refine lv_iconst (v := (-1)) S.1 S.2.1 dX12_person_132 (by decide) ?_
    have hf : (f_X12_person mPpl mW p x) = (-1) := (cd_t c1).trans ((if_neg k2_0).trans ((if_neg k2_1).trans ((if_neg k2_2).trans ((if_neg k2_3).trans ((if_neg k2_4).trans ((if_neg k2_5).trans (if_neg k2_6)))))))
    exact g_iretR S hr hlk hS (by rw [hf] <;> rfl) dX12_person_133
  · refine lv_iconst (v := (-1)) S.1 S.2.1 dX12_person_8 (by decide) ?_
    have hf : (f_X12_person mPpl mW p x) = (-1) := cd_f c1
    exact g_iretR S hr hlk hS (by rw [hf] <;> rfl) dX12_person_9
def f_X12_boat (mPpl : Int32) (mBts : Int32) (mW : Nat → Int32) (b : Int32) (x : Int32) : Int32 := (bif (f_X12_isBoat mBts b) then (if x = 0 then (f_X12_ofBoat mW b 0) else (if x = 1 then (bif (f_X12_isOut mW b) then (f_X12_ofBoat mW b 1) else (mW 0)) else (if x = 2 then (f_X12_manyOf mPpl mW 1 b) else (if x = 3 then (f_X12_manyOf mPpl mW 0 b) else (if x = 4 then (f_X12_ofBoat mW b 2) else (-1)))))) else (-1))
set_option maxHeartbeats 4000000 in
set_option maxRecDepth 100000 in
theorem c_X12_boat (l : Launch) (D : va_G) (A : Nat → Prop) (w : va_W) (α : Nat → Nat) (k : Nat) (mTaped : Int32) (mErr : Int32) (mPpl : Int32) (mBts : Int32) (mUs : Int32) (mRa : Int32) (mSt : Int32) (mKi : Int32) (mWd : Int64) (mVal : Int32) (mLet : Int32) (mFin : Int32) (mNp : Int32) (mNb : Int32) (mOuts : Int32) (mWant : Int32) (mFnd : Int32) (mTape : Nat → Int32) (mNum : Nat → Int32) (mNam : Nat → Int32) (mFst : Nat → Int32) (mBnm : Nat → Int32) (mW : Nat → Int32) (mUn : Nat → Int32) (mSl : Nat → Int32) (mKp : Nat → Int32) (mnNum : Nat → Int32) (mnNam : Nat → Int32) (mnBo : Nat → Int32) (mnBn : Nat → Int32) (b : Int32) (x : Int32) (hB0 : Blk w k (cM D α k mTaped mErr mPpl mBts mUs mRa mSt mKi mWd mVal mLet mFin mNp mNb mOuts mWant mFnd mTape mNum mNam mFst mBnm mW mUn mSl mKp mnNum mnNam mnBo mnBn)) (hy0 : vp_in mPpl 21) (hy1 : vp_in mBts 7) : Met l yX12_boat (ws_ yX12_boat cX12_boat 3 (some .int)) ({ frames := 2, cells := 0, slots := 0, locals := 46 }) (gPre D A [.ref (α (k)), .int b, .int x] w) (gR (some (.int (f_X12_boat mPpl mBts mW b x)))) 0 0 A := by
  refine g_met [(0, .ref (α (k))), (1, .int b), (2, .int x)] (plainFor_of_name (by decide)) (Nat.le_of_ble_eq_true rfl) rfl (fun pg en s mi ar below me co ls S hK hP hD hE hS hr hlk hnm hl => ?_)
  have hpn := vin_lt (show vp_in mPpl 21 by assumption)
  refine lv_aload_n S.1 S.2.1 dX12_boat_0 rfl (lv_at hl 0 rfl) ?_
  refine lv_iload_n S.1 S.2.1 dX12_boat_1 rfl (lv_at hl 1 rfl) ?_
  refine g_aftR0 (st1 := [.int (b2i (f_X12_isBoat mBts b))]) (g_V (As := [.int b]) (rest := []) S mi_X12_isBoat qw1562 (c_X12_isBoat l D A w α (k) mTaped mErr mPpl mBts mUs mRa mSt mKi mWd mVal mLet mFin mNp mNb mOuts mWant mFnd mTape mNum mNam mFst mBnm mW mUn mSl mKp mnNum mnNam mnBo mnBn b hB0) hK hP hD hE hS (hB0 0 _ rfl) rfl rfl rfl hl.1 (Nat.le_of_ble_eq_true rfl) rfl rfl ⟨(Nat.le_of_ble_eq_true rfl), (Nat.le_of_ble_eq_true rfl)⟩ ⟨(Nat.le_of_ble_eq_true rfl), (Nat.le_of_ble_eq_true rfl)⟩ dX12_boat_2) hS rfl (fun locs hS => ?_)
  refine g_bifne (b := (f_X12_isBoat mBts b)) (tgt := 10) S dX12_boat_5 (by decide) (fun (c1 : (f_X12_isBoat mBts b) = true) => ?_) (fun (c1 : (f_X12_isBoat mBts b) = false) => ?_)
  · have hh1 := isBoat_in (by assumption) c1
    refine lv_iload_n S.1 S.2.1 dX12_boat_10 rfl (lv_at hl 2 rfl) ?_
    by_cases k2_0 : x = 0
    · refine lv_tableIn (tgt := 44) S.1 S.2.1 dX12_boat_11 (by rw [k2_0]; decide) (by rw [k2_0]; decide) (by rw [k2_0]; rfl) (by decide) ?_
      refine lv_aload_n S.1 S.2.1 dX12_boat_44 rfl (lv_at hl 0 rfl) ?_
      refine lv_iload_n S.1 S.2.1 dX12_boat_45 rfl (lv_at hl 1 rfl) ?_
      refine lv_iconst (v := 0) S.1 S.2.1 dX12_boat_46 (by decide) ?_
      refine g_aftR0 (st1 := [.int (f_X12_ofBoat mW b 0)]) (g_V (As := [.int b, .int 0]) (rest := []) S mi_X12_ofBoat qw1571 (c_X12_ofBoat l D A w α (k) mTaped mErr mPpl mBts mUs mRa mSt mKi mWd mVal mLet mFin mNp mNb mOuts mWant mFnd mTape mNum mNam mFst mBnm mW mUn mSl mKp mnNum mnNam mnBo mnBn b 0 hB0 (by first | assumption | exact vin_d (by decide) | exact vp_in_nI (by omega) (by decide) | decide | omega) (by first | assumption | exact vin_d (by decide) | exact vp_in_nI (by omega) (by decide) | decide | omega)) hK hP hD hE hS (hB0 0 _ rfl) rfl rfl rfl hl.1 (Nat.le_of_ble_eq_true rfl) rfl rfl ⟨(Nat.le_of_ble_eq_true rfl), (Nat.le_of_ble_eq_true rfl)⟩ ⟨(Nat.le_of_ble_eq_true rfl), (Nat.le_of_ble_eq_true rfl)⟩ dX12_boat_47) hS rfl (fun locs hS => ?_)
      have hf : (f_X12_boat mPpl mBts mW b x) = (f_X12_ofBoat mW b 0) := (cd_t c1).trans (if_pos k2_0)
      exact g_iretR S hr hlk hS (by rw [hf] <;> rfl) dX12_boat_50
    by_cases k2_1 : x = 1
    · refine lv_tableIn (tgt := 51) S.1 S.2.1 dX12_boat_11 (by rw [k2_1]; decide) (by rw [k2_1]; decide) (by rw [k2_1]; rfl) (by decide) ?_
      refine lv_aload_n S.1 S.2.1 dX12_boat_51 rfl (lv_at hl 0 rfl) ?_
      refine lv_iload_n S.1 S.2.1 dX12_boat_52 rfl (lv_at hl 1 rfl) ?_
      refine g_aftR0 (st1 := [.int (b2i (f_X12_isOut mW b))]) (g_V (As := [.int b]) (rest := []) S mi_X12_isOut qw1567 (c_X12_isOut l D A w α (k) mTaped mErr mPpl mBts mUs mRa mSt mKi mWd mVal mLet mFin mNp mNb mOuts mWant mFnd mTape mNum mNam mFst mBnm mW mUn mSl mKp mnNum mnNam mnBo mnBn b hB0 (by first | assumption | exact vin_d (by decide) | exact vp_in_nI (by omega) (by decide) | decide | omega)) hK hP hD hE hS (hB0 0 _ rfl) rfl rfl rfl hl.1 (Nat.le_of_ble_eq_true rfl) rfl rfl ⟨(Nat.le_of_ble_eq_true rfl), (Nat.le_of_ble_eq_true rfl)⟩ ⟨(Nat.le_of_ble_eq_true rfl), (Nat.le_of_ble_eq_true rfl)⟩ dX12_boat_53) hS rfl (fun locs hS => ?_)
      refine g_bifeq (b := (f_X12_isOut mW b)) (tgt := 68) S dX12_boat_56 (by decide) (fun (c3 : (f_X12_isOut mW b) = false) => ?_) (fun (c3 : (f_X12_isOut mW b) = true) => ?_)
      · refine lv_aload_n S.1 S.2.1 dX12_boat_68 rfl (lv_at hl 0 rfl) ?_
        refine g_get (v := .ref (α (k + 6))) S hK hP (hB0 0 _ rfl) rfl inX12 9 (by decide) qw1383 rfl dX12_boat_69 ?_
        refine lv_iconst (v := 0) S.1 S.2.1 dX12_boat_72 (by decide) ?_
        refine g_iald S hK hP (hB0 6 _ rfl) (by first | assumption | exact vin_d (by decide) | exact vp_in_nI (by omega) (by decide) | decide) dX12_boat_73 ?_
        have hf : (f_X12_boat mPpl mBts mW b x) = (mW 0) := (cd_t c1).trans ((if_neg k2_0).trans ((if_pos k2_1).trans (cd_f c3)))
        exact g_iretR S hr hlk hS (by rw [hf] <;> rfl) dX12_boat_74
      · refine lv_aload_n S.1 S.2.1 dX12_boat_59 rfl (lv_at hl 0 rfl) ?_
        refine lv_iload_n S.1 S.2.1 dX12_boat_60 rfl (lv_at hl 1 rfl) ?_
        refine lv_iconst (v := 1) S.1 S.2.1 dX12_boat_61 (by decide) ?_
        refine g_aftR0 (st1 := [.int (f_X12_ofBoat mW b 1)]) (g_V (As := [.int b, .int 1]) (rest := []) S mi_X12_ofBoat qw1571 (c_X12_ofBoat l D A w α (k) mTaped mErr mPpl mBts mUs mRa mSt mKi mWd mVal mLet mFin mNp mNb mOuts mWant mFnd mTape mNum mNam mFst mBnm mW mUn mSl mKp mnNum mnNam mnBo mnBn b 1 hB0 (by first | assumption | exact vin_d (by decide) | exact vp_in_nI (by omega) (by decide) | decide | omega) (by first | assumption | exact vin_d (by decide) | exact vp_in_nI (by omega) (by decide) | decide | omega)) hK hP hD hE hS (hB0 0 _ rfl) rfl rfl rfl hl.1 (Nat.le_of_ble_eq_true rfl) rfl rfl ⟨(Nat.le_of_ble_eq_true rfl), (Nat.le_of_ble_eq_true rfl)⟩ ⟨(Nat.le_of_ble_eq_true rfl), (Nat.le_of_ble_eq_true rfl)⟩ dX12_boat_62) hS rfl (fun locs hS => ?_)
        refine lv_goto (tgt := 74) S.1 S.2.1 dX12_boat_65 (by decide) ?_
        have hf : (f_X12_boat mPpl mBts mW b x) = (f_X12_ofBoat mW b 1) := (cd_t c1).trans ((if_neg k2_0).trans ((if_pos k2_1).trans (cd_t c3)))
        exact g_iretR S hr hlk hS (by rw [hf] <;> rfl) dX12_boat_74
    by_cases k2_2 : x = 2
    · refine lv_tableIn (tgt := 75) S.1 S.2.1 dX12_boat_11 (by rw [k2_2]; decide) (by rw [k2_2]; decide) (by rw [k2_2]; rfl) (by decide) ?_
      refine lv_aload_n S.1 S.2.1 dX12_boat_75 rfl (lv_at hl 0 rfl) ?_
      refine lv_iconst (v := 1) S.1 S.2.1 dX12_boat_76 (by decide) ?_
      refine lv_iload_n S.1 S.2.1 dX12_boat_77 rfl (lv_at hl 1 rfl) ?_
      refine g_aftR0 (st1 := [.int (f_X12_manyOf mPpl mW 1 b)]) (g_V (As := [.int 1, .int b]) (rest := []) S mi_X12_manyOf qw1779 (c_X12_manyOf l D A w α (k) mTaped mErr mPpl mBts mUs mRa mSt mKi mWd mVal mLet mFin mNp mNb mOuts mWant mFnd mTape mNum mNam mFst mBnm mW mUn mSl mKp mnNum mnNam mnBo mnBn 1 b hB0 (by first | assumption | exact vin_d (by decide) | exact vp_in_nI (by omega) (by decide) | decide | omega) (by first | assumption | exact vin_d (by decide) | exact vp_in_nI (by omega) (by decide) | decide | omega)) hK hP hD hE hS (hB0 0 _ rfl) rfl rfl rfl hl.1 (Nat.le_of_ble_eq_true rfl) rfl rfl ⟨(Nat.le_of_ble_eq_true rfl), (Nat.le_of_ble_eq_true rfl)⟩ ⟨(Nat.le_of_ble_eq_true rfl), (Nat.le_of_ble_eq_true rfl)⟩ dX12_boat_78) hS rfl (fun locs hS => ?_)
      have hf : (f_X12_boat mPpl mBts mW b x) = (f_X12_manyOf mPpl mW 1 b) := (cd_t c1).trans ((if_neg k2_0).trans ((if_neg k2_1).trans (if_pos k2_2)))
      exact g_iretR S hr hlk hS (by rw [hf] <;> rfl) dX12_boat_81
    by_cases k2_3 : x = 3
    · refine lv_tableIn (tgt := 82) S.1 S.2.1 dX12_boat_11 (by rw [k2_3]; decide) (by rw [k2_3]; decide) (by rw [k2_3]; rfl) (by decide) ?_
      refine lv_aload_n S.1 S.2.1 dX12_boat_82 rfl (lv_at hl 0 rfl) ?_
      refine lv_iconst (v := 0) S.1 S.2.1 dX12_boat_83 (by decide) ?_
      refine lv_iload_n S.1 S.2.1 dX12_boat_84 rfl (lv_at hl 1 rfl) ?_
      refine g_aftR0 (st1 := [.int (f_X12_manyOf mPpl mW 0 b)]) (g_V (As := [.int 0, .int b]) (rest := []) S mi_X12_manyOf qw1779 (c_X12_manyOf l D A w α (k) mTaped mErr mPpl mBts mUs mRa mSt mKi mWd mVal mLet mFin mNp mNb mOuts mWant mFnd mTape mNum mNam mFst mBnm mW mUn mSl mKp mnNum mnNam mnBo mnBn 0 b hB0 (by first | assumption | exact vin_d (by decide) | exact vp_in_nI (by omega) (by decide) | decide | omega) (by first | assumption | exact vin_d (by decide) | exact vp_in_nI (by omega) (by decide) | decide | omega)) hK hP hD hE hS (hB0 0 _ rfl) rfl rfl rfl hl.1 (Nat.le_of_ble_eq_true rfl) rfl rfl ⟨(Nat.le_of_ble_eq_true rfl), (Nat.le_of_ble_eq_true rfl)⟩ ⟨(Nat.le_of_ble_eq_true rfl), (Nat.le_of_ble_eq_true rfl)⟩ dX12_boat_85) hS rfl (fun locs hS => ?_)
      have hf : (f_X12_boat mPpl mBts mW b x) = (f_X12_manyOf mPpl mW 0 b) := (cd_t c1).trans ((if_neg k2_0).trans ((if_neg k2_1).trans ((if_neg k2_2).trans (if_pos k2_3))))
      exact g_iretR S hr hlk hS (by rw [hf] <;> rfl) dX12_boat_88
    by_cases k2_4 : x = 4
    · refine lv_tableIn (tgt := 89) S.1 S.2.1 dX12_boat_11 (by rw [k2_4]; decide) (by rw [k2_4]; decide) (by rw [k2_4]; rfl) (by decide) ?_
      refine lv_aload_n S.1 S.2.1 dX12_boat_89 rfl (lv_at hl 0 rfl) ?_
      refine lv_iload_n S.1 S.2.1 dX12_boat_90 rfl (lv_at hl 1 rfl) ?_
      refine lv_iconst (v := 2) S.1 S.2.1 dX12_boat_91 (by decide) ?_
      refine g_aftR0 (st1 := [.int (f_X12_ofBoat mW b 2)]) (g_V (As := [.int b, .int 2]) (rest := []) S mi_X12_ofBoat qw1571 (c_X12_ofBoat l D A w α (k) mTaped mErr mPpl mBts mUs mRa mSt mKi mWd mVal mLet mFin mNp mNb mOuts mWant mFnd mTape mNum mNam mFst mBnm mW mUn mSl mKp mnNum mnNam mnBo mnBn b 2 hB0 (by first | assumption | exact vin_d (by decide) | exact vp_in_nI (by omega) (by decide) | decide | omega) (by first | assumption | exact vin_d (by decide) | exact vp_in_nI (by omega) (by decide) | decide | omega)) hK hP hD hE hS (hB0 0 _ rfl) rfl rfl rfl hl.1 (Nat.le_of_ble_eq_true rfl) rfl rfl ⟨(Nat.le_of_ble_eq_true rfl), (Nat.le_of_ble_eq_true rfl)⟩ ⟨(Nat.le_of_ble_eq_true rfl), (Nat.le_of_ble_eq_true rfl)⟩ dX12_boat_92) hS rfl (fun locs hS => ?_)
      have hf : (f_X12_boat mPpl mBts mW b x) = (f_X12_ofBoat mW b 2) := (cd_t c1).trans ((if_neg k2_0).trans ((if_neg k2_1).trans ((if_neg k2_2).trans ((if_neg k2_3).trans (if_pos k2_4)))))
      exact g_iretR S hr hlk hS (by rw [hf] <;> rfl) dX12_boat_95
    have hout : x.toInt < (0 : Int) ∨ (4 : Int) < x.toInt := sw_out (lo := 0) (n := 5) (by decide) (fun i hi => by match i, hi with | 0, _ => exact k2_0 | 1, _ => exact k2_1 | 2, _ => exact k2_2 | 3, _ => exact k2_3 | 4, _ => exact k2_4 | i + 5, h => exact absurd h (by omega))
    refine lv_tableOut (tgt := 96) S.1 S.2.1 dX12_boat_11 hout (by decide) ?_
    refine lv_iconst (v := (-1)) S.1 S.2.1 dX12_boat_96 (by decide) ?_
    have hf : (f_X12_boat mPpl mBts mW b x) = (-1) := (cd_t c1).trans ((if_neg k2_0).trans ((if_neg k2_1).trans ((if_neg k2_2).trans ((if_neg k2_3).trans (if_neg k2_4)))))
    exact g_iretR S hr hlk hS (by rw [hf] <;> rfl) dX12_boat_97
  · refine lv_iconst (v := (-1)) S.1 S.2.1 dX12_boat_8 (by decide) ?_
    have hf : (f_X12_boat mPpl mBts mW b x) = (-1) := cd_f c1
    exact g_iretR S hr hlk hS (by rw [hf] <;> rfl) dX12_boat_9
def f_X12_agrees (mPpl : Int32) (mW : Nat → Int32) : Bool := (if (mW 1) = 0 then true else (if ((f_X12_turnout mPpl mW) + (f_X12_struckMany mPpl mW)) = (mW 7) then true else false))
set_option maxHeartbeats 4000000 in
set_option maxRecDepth 100000 in
theorem c_X12_agrees (l : Launch) (D : va_G) (A : Nat → Prop) (w : va_W) (α : Nat → Nat) (k : Nat) (mTaped : Int32) (mErr : Int32) (mPpl : Int32) (mBts : Int32) (mUs : Int32) (mRa : Int32) (mSt : Int32) (mKi : Int32) (mWd : Int64) (mVal : Int32) (mLet : Int32) (mFin : Int32) (mNp : Int32) (mNb : Int32) (mOuts : Int32) (mWant : Int32) (mFnd : Int32) (mTape : Nat → Int32) (mNum : Nat → Int32) (mNam : Nat → Int32) (mFst : Nat → Int32) (mBnm : Nat → Int32) (mW : Nat → Int32) (mUn : Nat → Int32) (mSl : Nat → Int32) (mKp : Nat → Int32) (mnNum : Nat → Int32) (mnNam : Nat → Int32) (mnBo : Nat → Int32) (mnBn : Nat → Int32) (hB0 : Blk w k (cM D α k mTaped mErr mPpl mBts mUs mRa mSt mKi mWd mVal mLet mFin mNp mNb mOuts mWant mFnd mTape mNum mNam mFst mBnm mW mUn mSl mKp mnNum mnNam mnBo mnBn)) (hy0 : vp_in mPpl 21) : Met l yX12_agrees (ws_ yX12_agrees cX12_agrees 1 (some .boolean)) ({ frames := 4, cells := 0, slots := 0, locals := 87 }) (gPre D A [.ref (α (k))] w) (gR (some (.int (b2i (f_X12_agrees mPpl mW))))) 0 0 A := by
  refine g_met [(0, .ref (α (k)))] (plainFor_of_name (by decide)) (Nat.le_of_ble_eq_true rfl) rfl (fun pg en s mi ar below me co ls S hK hP hD hE hS hr hlk hnm hl => ?_)
  have hpn := vin_lt (show vp_in mPpl 21 by assumption)
  refine lv_aload_n S.1 S.2.1 dX12_agrees_0 rfl (lv_at hl 0 rfl) ?_
  refine g_get (v := .ref (α (k + 6))) S hK hP (hB0 0 _ rfl) rfl inX12 9 (by decide) qw1383 rfl dX12_agrees_1 ?_
  refine lv_iconst (v := 1) S.1 S.2.1 dX12_agrees_4 (by decide) ?_
  refine g_iald S hK hP (hB0 6 _ rfl) (by first | assumption | exact vin_d (by decide) | exact vp_in_nI (by omega) (by decide) | decide) dX12_agrees_5 ?_
  refine lv_if_eq (tgt := 28) S.1 S.2.1 dX12_agrees_6 (by decide) (fun (c1 : (mW 1) = 0) => ?_) (fun (c1 : ¬ (mW 1) = 0) => ?_)
  · refine lv_iconst (v := 1) S.1 S.2.1 dX12_agrees_28 (by decide) ?_
    refine lv_goto (tgt := 33) S.1 S.2.1 dX12_agrees_29 (by decide) ?_
    have hf : (f_X12_agrees mPpl mW) = true := if_pos c1
    exact g_zretR S hr hlk hS rfl (by rw [hf] <;> rfl) dX12_agrees_33
  · refine lv_aload_n S.1 S.2.1 dX12_agrees_9 rfl (lv_at hl 0 rfl) ?_
    refine g_aftR0 (st1 := [.int (f_X12_turnout mPpl mW)]) (g_V (As := []) (rest := []) S mi_X12_turnout qw1716 (c_X12_turnout l D A w α (k) mTaped mErr mPpl mBts mUs mRa mSt mKi mWd mVal mLet mFin mNp mNb mOuts mWant mFnd mTape mNum mNam mFst mBnm mW mUn mSl mKp mnNum mnNam mnBo mnBn hB0 (by first | assumption | exact vin_d (by decide) | exact vp_in_nI (by omega) (by decide) | decide | omega)) hK hP hD hE hS (hB0 0 _ rfl) rfl rfl rfl hl.1 (Nat.le_of_ble_eq_true rfl) rfl rfl ⟨(Nat.le_of_ble_eq_true rfl), (Nat.le_of_ble_eq_true rfl)⟩ ⟨(Nat.le_of_ble_eq_true rfl), (Nat.le_of_ble_eq_true rfl)⟩ dX12_agrees_10) hS rfl (fun locs hS => ?_)
    refine lv_aload_n S.1 S.2.1 dX12_agrees_13 rfl (lv_at hl 0 rfl) ?_
    refine g_aftR0 (st1 := [.int (f_X12_struckMany mPpl mW), .int (f_X12_turnout mPpl mW)]) (g_V (As := []) (rest := [.int (f_X12_turnout mPpl mW)]) S mi_X12_struckMany qw1767 (c_X12_struckMany l D A w α (k) mTaped mErr mPpl mBts mUs mRa mSt mKi mWd mVal mLet mFin mNp mNb mOuts mWant mFnd mTape mNum mNam mFst mBnm mW mUn mSl mKp mnNum mnNam mnBo mnBn hB0 (by first | assumption | exact vin_d (by decide) | exact vp_in_nI (by omega) (by decide) | decide | omega)) hK hP hD hE hS (hB0 0 _ rfl) rfl rfl rfl hl.1 (Nat.le_of_ble_eq_true rfl) rfl rfl ⟨(Nat.le_of_ble_eq_true rfl), (Nat.le_of_ble_eq_true rfl)⟩ ⟨(Nat.le_of_ble_eq_true rfl), (Nat.le_of_ble_eq_true rfl)⟩ dX12_agrees_14) hS rfl (fun locs hS => ?_)
    refine lv_iadd S.1 S.2.1 dX12_agrees_17 ?_
    refine lv_aload_n S.1 S.2.1 dX12_agrees_18 rfl (lv_at hl 0 rfl) ?_
    refine g_get (v := .ref (α (k + 6))) S hK hP (hB0 0 _ rfl) rfl inX12 9 (by decide) qw1383 rfl dX12_agrees_19 ?_
    refine lv_bipush (v := 7) S.1 S.2.1 dX12_agrees_22 (by decide) ?_
    refine g_iald S hK hP (hB0 6 _ rfl) (by first | assumption | exact vin_d (by decide) | exact vp_in_nI (by omega) (by decide) | decide) dX12_agrees_24 ?_
    refine lv_icmp_ne (tgt := 32) S.1 S.2.1 dX12_agrees_25 (by decide) (fun (c2 : ¬ ((f_X12_turnout mPpl mW) + (f_X12_struckMany mPpl mW)) = (mW 7)) => ?_) (fun (c2 : ((f_X12_turnout mPpl mW) + (f_X12_struckMany mPpl mW)) = (mW 7)) => ?_)
    · refine lv_iconst (v := 0) S.1 S.2.1 dX12_agrees_32 (by decide) ?_
      have hf : (f_X12_agrees mPpl mW) = false := (if_neg c1).trans (if_neg c2)
      exact g_zretR S hr hlk hS rfl (by rw [hf] <;> rfl) dX12_agrees_33
    · refine lv_iconst (v := 1) S.1 S.2.1 dX12_agrees_28 (by decide) ?_
      refine lv_goto (tgt := 33) S.1 S.2.1 dX12_agrees_29 (by decide) ?_
      have hf : (f_X12_agrees mPpl mW) = true := (if_neg c1).trans (if_pos c2)
      exact g_zretR S hr hlk hS rfl (by rw [hf] <;> rfl) dX12_agrees_33
def f_X12_stick (mPpl : Int32) (mW : Nat → Int32) (o : Int32) (x : Int32) : Int32 := (bif (f_X12_isPerson mPpl o) then (bif (f_X12_in x.toInt64 0 5) then (f_X12_of mW o (5 + x)) else (-1)) else (-1))
set_option maxHeartbeats 4000000 in
set_option maxRecDepth 100000 in
theorem c_X12_stick (l : Launch) (D : va_G) (A : Nat → Prop) (w : va_W) (α : Nat → Nat) (k : Nat) (mTaped : Int32) (mErr : Int32) (mPpl : Int32) (mBts : Int32) (mUs : Int32) (mRa : Int32) (mSt : Int32) (mKi : Int32) (mWd : Int64) (mVal : Int32) (mLet : Int32) (mFin : Int32) (mNp : Int32) (mNb : Int32) (mOuts : Int32) (mWant : Int32) (mFnd : Int32) (mTape : Nat → Int32) (mNum : Nat → Int32) (mNam : Nat → Int32) (mFst : Nat → Int32) (mBnm : Nat → Int32) (mW : Nat → Int32) (mUn : Nat → Int32) (mSl : Nat → Int32) (mKp : Nat → Int32) (mnNum : Nat → Int32) (mnNam : Nat → Int32) (mnBo : Nat → Int32) (mnBn : Nat → Int32) (o : Int32) (x : Int32) (hB0 : Blk w k (cM D α k mTaped mErr mPpl mBts mUs mRa mSt mKi mWd mVal mLet mFin mNp mNb mOuts mWant mFnd mTape mNum mNam mFst mBnm mW mUn mSl mKp mnNum mnNam mnBo mnBn)) (hy0 : vp_in mPpl 21) : Met l yX12_stick (ws_ yX12_stick cX12_stick 3 (some .int)) ({ frames := 2, cells := 0, slots := 0, locals := 46 }) (gPre D A [.ref (α (k)), .int o, .int x] w) (gR (some (.int (f_X12_stick mPpl mW o x)))) 0 0 A := by
  refine g_met [(0, .ref (α (k))), (1, .int o), (2, .int x)] (plainFor_of_name (by decide)) (Nat.le_of_ble_eq_true rfl) rfl (fun pg en s mi ar below me co ls S hK hP hD hE hS hr hlk hnm hl => ?_)
  refine lv_aload_n S.1 S.2.1 dX12_stick_0 rfl (lv_at hl 0 rfl) ?_
  refine lv_iload_n S.1 S.2.1 dX12_stick_1 rfl (lv_at hl 1 rfl) ?_
  refine g_aftR0 (st1 := [.int (b2i (f_X12_isPerson mPpl o))]) (g_V (As := [.int o]) (rest := []) S mi_X12_isPerson qw1611 (c_X12_isPerson l D A w α (k) mTaped mErr mPpl mBts mUs mRa mSt mKi mWd mVal mLet mFin mNp mNb mOuts mWant mFnd mTape mNum mNam mFst mBnm mW mUn mSl mKp mnNum mnNam mnBo mnBn o hB0) hK hP hD hE hS (hB0 0 _ rfl) rfl rfl rfl hl.1 (Nat.le_of_ble_eq_true rfl) rfl rfl ⟨(Nat.le_of_ble_eq_true rfl), (Nat.le_of_ble_eq_true rfl)⟩ ⟨(Nat.le_of_ble_eq_true rfl), (Nat.le_of_ble_eq_true rfl)⟩ dX12_stick_2) hS rfl (fun locs hS => ?_)
  refine g_bifeq (b := (f_X12_isPerson mPpl o)) (tgt := 31) S dX12_stick_5 (by decide) (fun (c1 : (f_X12_isPerson mPpl o) = false) => ?_) (fun (c1 : (f_X12_isPerson mPpl o) = true) => ?_)
  · refine lv_iconst (v := (-1)) S.1 S.2.1 dX12_stick_31 (by decide) ?_
    have hf : (f_X12_stick mPpl mW o x) = (-1) := cd_f c1
    exact g_iretR S hr hlk hS (by rw [hf] <;> rfl) dX12_stick_32
  · have hh1 := isPerson_in (by assumption) c1
    refine lv_iload_n S.1 S.2.1 dX12_stick_8 rfl (lv_at hl 2 rfl) ?_
    refine lv_i2l (v := x.toInt64) S.1 S.2.1 dX12_stick_9 rfl ?_
    refine lv_lconst (v := 0) S.1 S.2.1 dX12_stick_10 (by decide) ?_
    refine lv_ldc2 (v := 5) S.1 S.2.1 S.2.2.2.1 (S.2.2.2.2 _ qw1787) dX12_stick_11 ?_
    refine g_aftR0 (st1 := [.int (b2i (f_X12_in x.toInt64 0 5))]) (g_St (As := [.long x.toInt64, .long 0, .long 5]) (rest := []) S ms_X12_in qw1477 (c_X12_in l D A w α x.toInt64 0 5) hK hP hD hE hS rfl rfl hl.1 (Nat.le_of_ble_eq_true rfl) rfl rfl ⟨(Nat.le_of_ble_eq_true rfl), (Nat.le_of_ble_eq_true rfl)⟩ ⟨(Nat.le_of_ble_eq_true rfl), (Nat.le_of_ble_eq_true rfl)⟩ dX12_stick_14) hS rfl (fun locs hS => ?_)
    refine g_bifeq (b := (f_X12_in x.toInt64 0 5)) (tgt := 31) S dX12_stick_17 (by decide) (fun (c2 : (f_X12_in x.toInt64 0 5) = false) => ?_) (fun (c2 : (f_X12_in x.toInt64 0 5) = true) => ?_)
    · refine lv_iconst (v := (-1)) S.1 S.2.1 dX12_stick_31 (by decide) ?_
      have hf : (f_X12_stick mPpl mW o x) = (-1) := (cd_t c1).trans (cd_f c2)
      exact g_iretR S hr hlk hS (by rw [hf] <;> rfl) dX12_stick_32
    · refine lv_aload_n S.1 S.2.1 dX12_stick_20 rfl (lv_at hl 0 rfl) ?_
      refine lv_iload_n S.1 S.2.1 dX12_stick_21 rfl (lv_at hl 1 rfl) ?_
      refine lv_iconst (v := 5) S.1 S.2.1 dX12_stick_22 (by decide) ?_
      refine lv_iload_n S.1 S.2.1 dX12_stick_23 rfl (lv_at hl 2 rfl) ?_
      refine lv_iadd S.1 S.2.1 dX12_stick_24 ?_
      refine g_aftR0 (st1 := [.int (f_X12_of mW o (5 + x))]) (g_V (As := [.int o, .int (5 + x)]) (rest := []) S mi_X12_of qw1579 (c_X12_of l D A w α (k) mTaped mErr mPpl mBts mUs mRa mSt mKi mWd mVal mLet mFin mNp mNb mOuts mWant mFnd mTape mNum mNam mFst mBnm mW mUn mSl mKp mnNum mnNam mnBo mnBn o (5 + x) hB0 (by first | assumption | exact vin_d (by decide) | exact vp_in_nI (by omega) (by decide) | decide | omega) (by exact add_in (in_vin (by decide) c2))) hK hP hD hE hS (hB0 0 _ rfl) rfl rfl rfl hl.1 (Nat.le_of_ble_eq_true rfl) rfl rfl ⟨(Nat.le_of_ble_eq_true rfl), (Nat.le_of_ble_eq_true rfl)⟩ ⟨(Nat.le_of_ble_eq_true rfl), (Nat.le_of_ble_eq_true rfl)⟩ dX12_stick_25) hS rfl (fun locs hS => ?_)
      refine lv_goto (tgt := 32) S.1 S.2.1 dX12_stick_28 (by decide) ?_
      have hf : (f_X12_stick mPpl mW o x) = (f_X12_of mW o (5 + x)) := (cd_t c1).trans (cd_t c2)
      exact g_iretR S hr hlk hS (by rw [hf] <;> rfl) dX12_stick_32
def f_X12_basket (mPpl : Int32) (mW : Nat → Int32) (b : Int32) : Int32 := (bif (f_X12_isBasket b) then (f_X12_ones (f_X12_setIn mPpl mW b)) else (-1))
set_option maxHeartbeats 4000000 in
set_option maxRecDepth 100000 in
theorem c_X12_basket (l : Launch) (D : va_G) (A : Nat → Prop) (w : va_W) (α : Nat → Nat) (k : Nat) (mTaped : Int32) (mErr : Int32) (mPpl : Int32) (mBts : Int32) (mUs : Int32) (mRa : Int32) (mSt : Int32) (mKi : Int32) (mWd : Int64) (mVal : Int32) (mLet : Int32) (mFin : Int32) (mNp : Int32) (mNb : Int32) (mOuts : Int32) (mWant : Int32) (mFnd : Int32) (mTape : Nat → Int32) (mNum : Nat → Int32) (mNam : Nat → Int32) (mFst : Nat → Int32) (mBnm : Nat → Int32) (mW : Nat → Int32) (mUn : Nat → Int32) (mSl : Nat → Int32) (mKp : Nat → Int32) (mnNum : Nat → Int32) (mnNam : Nat → Int32) (mnBo : Nat → Int32) (mnBn : Nat → Int32) (b : Int32) (hB0 : Blk w k (cM D α k mTaped mErr mPpl mBts mUs mRa mSt mKi mWd mVal mLet mFin mNp mNb mOuts mWant mFnd mTape mNum mNam mFst mBnm mW mUn mSl mKp mnNum mnNam mnBo mnBn)) (hy0 : vp_in mPpl 21) : Met l yX12_basket (ws_ yX12_basket cX12_basket 2 (some .int)) ({ frames := 2, cells := 0, slots := 0, locals := 45 }) (gPre D A [.ref (α (k)), .int b] w) (gR (some (.int (f_X12_basket mPpl mW b)))) 0 0 A := by
  refine g_met [(0, .ref (α (k))), (1, .int b)] (plainFor_of_name (by decide)) (Nat.le_of_ble_eq_true rfl) rfl (fun pg en s mi ar below me co ls S hK hP hD hE hS hr hlk hnm hl => ?_)
  have hpn := vin_lt (show vp_in mPpl 21 by assumption)
  refine lv_iload_n S.1 S.2.1 dX12_basket_0 rfl (lv_at hl 1 rfl) ?_
  refine g_aftR0 (st1 := [.int (b2i (f_X12_isBasket b))]) (g_St (As := [.int b]) (rest := []) S ms_X12_isBasket qw1637 (c_X12_isBasket l D A w α b) hK hP hD hE hS rfl rfl hl.1 (Nat.le_of_ble_eq_true rfl) rfl rfl ⟨(Nat.le_of_ble_eq_true rfl), (Nat.le_of_ble_eq_true rfl)⟩ ⟨(Nat.le_of_ble_eq_true rfl), (Nat.le_of_ble_eq_true rfl)⟩ dX12_basket_1) hS rfl (fun locs hS => ?_)
  refine g_bifeq (b := (f_X12_isBasket b)) (tgt := 18) S dX12_basket_4 (by decide) (fun (c1 : (f_X12_isBasket b) = false) => ?_) (fun (c1 : (f_X12_isBasket b) = true) => ?_)
  · refine lv_iconst (v := (-1)) S.1 S.2.1 dX12_basket_18 (by decide) ?_
    have hf : (f_X12_basket mPpl mW b) = (-1) := cd_f c1
    exact g_iretR S hr hlk hS (by rw [hf] <;> rfl) dX12_basket_19
  · refine lv_aload_n S.1 S.2.1 dX12_basket_7 rfl (lv_at hl 0 rfl) ?_
    refine lv_iload_n S.1 S.2.1 dX12_basket_8 rfl (lv_at hl 1 rfl) ?_
    refine g_aftR0 (st1 := [.int (f_X12_setIn mPpl mW b)]) (g_V (As := [.int b]) (rest := []) S mi_X12_setIn qw1668 (c_X12_setIn l D A w α (k) mTaped mErr mPpl mBts mUs mRa mSt mKi mWd mVal mLet mFin mNp mNb mOuts mWant mFnd mTape mNum mNam mFst mBnm mW mUn mSl mKp mnNum mnNam mnBo mnBn b hB0 (by first | assumption | exact vin_d (by decide) | exact vp_in_nI (by omega) (by decide) | decide | omega)) hK hP hD hE hS (hB0 0 _ rfl) rfl rfl rfl hl.1 (Nat.le_of_ble_eq_true rfl) rfl rfl ⟨(Nat.le_of_ble_eq_true rfl), (Nat.le_of_ble_eq_true rfl)⟩ ⟨(Nat.le_of_ble_eq_true rfl), (Nat.le_of_ble_eq_true rfl)⟩ dX12_basket_9) hS rfl (fun locs hS => ?_)
    refine g_aftR0 (st1 := [.int (f_X12_ones (f_X12_setIn mPpl mW b))]) (g_St (As := [.int (f_X12_setIn mPpl mW b)]) (rest := []) S ms_X12_ones qw1645 (c_X12_ones l D A w α (f_X12_setIn mPpl mW b)) hK hP hD hE hS rfl rfl hl.1 (Nat.le_of_ble_eq_true rfl) rfl rfl ⟨(Nat.le_of_ble_eq_true rfl), (Nat.le_of_ble_eq_true rfl)⟩ ⟨(Nat.le_of_ble_eq_true rfl), (Nat.le_of_ble_eq_true rfl)⟩ dX12_basket_12) hS rfl (fun locs hS => ?_)
    refine lv_goto (tgt := 19) S.1 S.2.1 dX12_basket_15 (by decide) ?_
    have hf : (f_X12_basket mPpl mW b) = (f_X12_ones (f_X12_setIn mPpl mW b)) := cd_t c1
    exact g_iretR S hr hlk hS (by rw [hf] <;> rfl) dX12_basket_19
def f_X12_number_ (mNum : Nat → Int32) (x : Int32) : Int32 := (bif (f_X12_in x.toInt64 0 9) then (mNum x.toNatClampNeg) else (-1))
set_option maxHeartbeats 4000000 in
set_option maxRecDepth 100000 in
theorem c_X12_number_ (l : Launch) (D : va_G) (A : Nat → Prop) (w : va_W) (α : Nat → Nat) (k : Nat) (mTaped : Int32) (mErr : Int32) (mPpl : Int32) (mBts : Int32) (mUs : Int32) (mRa : Int32) (mSt : Int32) (mKi : Int32) (mWd : Int64) (mVal : Int32) (mLet : Int32) (mFin : Int32) (mNp : Int32) (mNb : Int32) (mOuts : Int32) (mWant : Int32) (mFnd : Int32) (mTape : Nat → Int32) (mNum : Nat → Int32) (mNam : Nat → Int32) (mFst : Nat → Int32) (mBnm : Nat → Int32) (mW : Nat → Int32) (mUn : Nat → Int32) (mSl : Nat → Int32) (mKp : Nat → Int32) (mnNum : Nat → Int32) (mnNam : Nat → Int32) (mnBo : Nat → Int32) (mnBn : Nat → Int32) (x : Int32) (hB0 : Blk w k (cM D α k mTaped mErr mPpl mBts mUs mRa mSt mKi mWd mVal mLet mFin mNp mNb mOuts mWant mFnd mTape mNum mNam mFst mBnm mW mUn mSl mKp mnNum mnNam mnBo mnBn)) : Met l yX12_number_ (ws_ yX12_number_ cX12_number_ 2 (some .int)) ({ frames := 1, cells := 0, slots := 0, locals := 25 }) (gPre D A [.ref (α (k)), .int x] w) (gR (some (.int (f_X12_number_ mNum x)))) 0 0 A := by
  refine g_met [(0, .ref (α (k))), (1, .int x)] (plainFor_of_name (by decide)) (Nat.le_of_ble_eq_true rfl) rfl (fun pg en s mi ar below me co ls S hK hP hD hE hS hr hlk hnm hl => ?_)
  refine lv_iload_n S.1 S.2.1 dX12_number__0 rfl (lv_at hl 1 rfl) ?_
  refine lv_i2l (v := x.toInt64) S.1 S.2.1 dX12_number__1 rfl ?_
  refine lv_lconst (v := 0) S.1 S.2.1 dX12_number__2 (by decide) ?_
  refine lv_ldc2 (v := 9) S.1 S.2.1 S.2.2.2.1 (S.2.2.2.2 _ qw1796) dX12_number__3 ?_
  refine g_aftR0 (st1 := [.int (b2i (f_X12_in x.toInt64 0 9))]) (g_St (As := [.long x.toInt64, .long 0, .long 9]) (rest := []) S ms_X12_in qw1477 (c_X12_in l D A w α x.toInt64 0 9) hK hP hD hE hS rfl rfl hl.1 (Nat.le_of_ble_eq_true rfl) rfl rfl ⟨(Nat.le_of_ble_eq_true rfl), (Nat.le_of_ble_eq_true rfl)⟩ ⟨(Nat.le_of_ble_eq_true rfl), (Nat.le_of_ble_eq_true rfl)⟩ dX12_number__6) hS rfl (fun locs hS => ?_)
  refine g_bifeq (b := (f_X12_in x.toInt64 0 9)) (tgt := 21) S dX12_number__9 (by decide) (fun (c1 : (f_X12_in x.toInt64 0 9) = false) => ?_) (fun (c1 : (f_X12_in x.toInt64 0 9) = true) => ?_)
  · refine lv_iconst (v := (-1)) S.1 S.2.1 dX12_number__21 (by decide) ?_
    have hf : (f_X12_number_ mNum x) = (-1) := cd_f c1
    exact g_iretR S hr hlk hS (by rw [hf] <;> rfl) dX12_number__22
  · refine lv_aload_n S.1 S.2.1 dX12_number__12 rfl (lv_at hl 0 rfl) ?_
    refine g_get (v := .ref (α (k + 2))) S hK hP (hB0 0 _ rfl) rfl inX12 3 (by decide) qw1377 rfl dX12_number__13 ?_
    refine lv_iload_n S.1 S.2.1 dX12_number__16 rfl (lv_at hl 1 rfl) ?_
    refine g_iald S hK hP (hB0 2 _ rfl) (in_vin (by decide) c1) dX12_number__17 ?_
    refine lv_goto (tgt := 22) S.1 S.2.1 dX12_number__18 (by decide) ?_
    have hf : (f_X12_number_ mNum x) = (mNum x.toNatClampNeg) := cd_t c1
    exact g_iretR S hr hlk hS (by rw [hf] <;> rfl) dX12_number__22
def f_X12_owners (mPpl : Int32) (mW : Nat → Int32) (b : Int32) : Int32 := (bif (f_X12_isBasket b) then (f_X12_setIn mPpl mW b) else (-1))
set_option maxHeartbeats 4000000 in
set_option maxRecDepth 100000 in
theorem c_X12_owners (l : Launch) (D : va_G) (A : Nat → Prop) (w : va_W) (α : Nat → Nat) (k : Nat) (mTaped : Int32) (mErr : Int32) (mPpl : Int32) (mBts : Int32) (mUs : Int32) (mRa : Int32) (mSt : Int32) (mKi : Int32) (mWd : Int64) (mVal : Int32) (mLet : Int32) (mFin : Int32) (mNp : Int32) (mNb : Int32) (mOuts : Int32) (mWant : Int32) (mFnd : Int32) (mTape : Nat → Int32) (mNum : Nat → Int32) (mNam : Nat → Int32) (mFst : Nat → Int32) (mBnm : Nat → Int32) (mW : Nat → Int32) (mUn : Nat → Int32) (mSl : Nat → Int32) (mKp : Nat → Int32) (mnNum : Nat → Int32) (mnNam : Nat → Int32) (mnBo : Nat → Int32) (mnBn : Nat → Int32) (b : Int32) (hB0 : Blk w k (cM D α k mTaped mErr mPpl mBts mUs mRa mSt mKi mWd mVal mLet mFin mNp mNb mOuts mWant mFnd mTape mNum mNam mFst mBnm mW mUn mSl mKp mnNum mnNam mnBo mnBn)) (hy0 : vp_in mPpl 21) : Met l yX12_owners (ws_ yX12_owners cX12_owners 2 (some .int)) ({ frames := 2, cells := 0, slots := 0, locals := 45 }) (gPre D A [.ref (α (k)), .int b] w) (gR (some (.int (f_X12_owners mPpl mW b)))) 0 0 A := by
  refine g_met [(0, .ref (α (k))), (1, .int b)] (plainFor_of_name (by decide)) (Nat.le_of_ble_eq_true rfl) rfl (fun pg en s mi ar below me co ls S hK hP hD hE hS hr hlk hnm hl => ?_)
  have hpn := vin_lt (show vp_in mPpl 21 by assumption)
  refine lv_iload_n S.1 S.2.1 dX12_owners_0 rfl (lv_at hl 1 rfl) ?_
  refine g_aftR0 (st1 := [.int (b2i (f_X12_isBasket b))]) (g_St (As := [.int b]) (rest := []) S ms_X12_isBasket qw1637 (c_X12_isBasket l D A w α b) hK hP hD hE hS rfl rfl hl.1 (Nat.le_of_ble_eq_true rfl) rfl rfl ⟨(Nat.le_of_ble_eq_true rfl), (Nat.le_of_ble_eq_true rfl)⟩ ⟨(Nat.le_of_ble_eq_true rfl), (Nat.le_of_ble_eq_true rfl)⟩ dX12_owners_1) hS rfl (fun locs hS => ?_)
  refine g_bifeq (b := (f_X12_isBasket b)) (tgt := 15) S dX12_owners_4 (by decide) (fun (c1 : (f_X12_isBasket b) = false) => ?_) (fun (c1 : (f_X12_isBasket b) = true) => ?_)
  · refine lv_iconst (v := (-1)) S.1 S.2.1 dX12_owners_15 (by decide) ?_
    have hf : (f_X12_owners mPpl mW b) = (-1) := cd_f c1
    exact g_iretR S hr hlk hS (by rw [hf] <;> rfl) dX12_owners_16
  · refine lv_aload_n S.1 S.2.1 dX12_owners_7 rfl (lv_at hl 0 rfl) ?_
    refine lv_iload_n S.1 S.2.1 dX12_owners_8 rfl (lv_at hl 1 rfl) ?_
    refine g_aftR0 (st1 := [.int (f_X12_setIn mPpl mW b)]) (g_V (As := [.int b]) (rest := []) S mi_X12_setIn qw1668 (c_X12_setIn l D A w α (k) mTaped mErr mPpl mBts mUs mRa mSt mKi mWd mVal mLet mFin mNp mNb mOuts mWant mFnd mTape mNum mNam mFst mBnm mW mUn mSl mKp mnNum mnNam mnBo mnBn b hB0 (by first | assumption | exact vin_d (by decide) | exact vp_in_nI (by omega) (by decide) | decide | omega)) hK hP hD hE hS (hB0 0 _ rfl) rfl rfl rfl hl.1 (Nat.le_of_ble_eq_true rfl) rfl rfl ⟨(Nat.le_of_ble_eq_true rfl), (Nat.le_of_ble_eq_true rfl)⟩ ⟨(Nat.le_of_ble_eq_true rfl), (Nat.le_of_ble_eq_true rfl)⟩ dX12_owners_9) hS rfl (fun locs hS => ?_)
    refine lv_goto (tgt := 16) S.1 S.2.1 dX12_owners_12 (by decide) ?_
    have hf : (f_X12_owners mPpl mW b) = (f_X12_setIn mPpl mW b) := cd_t c1
    exact g_iretR S hr hlk hS (by rw [hf] <;> rfl) dX12_owners_16
def f_X12_carries (mPpl : Int32) (mW : Nat → Int32) (p : Int32) : Int32 := (bif (f_X12_isPerson mPpl p) then (f_X12_carriedBy mPpl mW p) else (-1))
set_option maxHeartbeats 4000000 in
set_option maxRecDepth 100000 in
theorem c_X12_carries (l : Launch) (D : va_G) (A : Nat → Prop) (w : va_W) (α : Nat → Nat) (k : Nat) (mTaped : Int32) (mErr : Int32) (mPpl : Int32) (mBts : Int32) (mUs : Int32) (mRa : Int32) (mSt : Int32) (mKi : Int32) (mWd : Int64) (mVal : Int32) (mLet : Int32) (mFin : Int32) (mNp : Int32) (mNb : Int32) (mOuts : Int32) (mWant : Int32) (mFnd : Int32) (mTape : Nat → Int32) (mNum : Nat → Int32) (mNam : Nat → Int32) (mFst : Nat → Int32) (mBnm : Nat → Int32) (mW : Nat → Int32) (mUn : Nat → Int32) (mSl : Nat → Int32) (mKp : Nat → Int32) (mnNum : Nat → Int32) (mnNam : Nat → Int32) (mnBo : Nat → Int32) (mnBn : Nat → Int32) (p : Int32) (hB0 : Blk w k (cM D α k mTaped mErr mPpl mBts mUs mRa mSt mKi mWd mVal mLet mFin mNp mNb mOuts mWant mFnd mTape mNum mNam mFst mBnm mW mUn mSl mKp mnNum mnNam mnBo mnBn)) (hy0 : vp_in mPpl 21) : Met l yX12_carries (ws_ yX12_carries cX12_carries 2 (some .int)) ({ frames := 2, cells := 0, slots := 0, locals := 46 }) (gPre D A [.ref (α (k)), .int p] w) (gR (some (.int (f_X12_carries mPpl mW p)))) 0 0 A := by
  refine g_met [(0, .ref (α (k))), (1, .int p)] (plainFor_of_name (by decide)) (Nat.le_of_ble_eq_true rfl) rfl (fun pg en s mi ar below me co ls S hK hP hD hE hS hr hlk hnm hl => ?_)
  have hpn := vin_lt (show vp_in mPpl 21 by assumption)
  refine lv_aload_n S.1 S.2.1 dX12_carries_0 rfl (lv_at hl 0 rfl) ?_
  refine lv_iload_n S.1 S.2.1 dX12_carries_1 rfl (lv_at hl 1 rfl) ?_
  refine g_aftR0 (st1 := [.int (b2i (f_X12_isPerson mPpl p))]) (g_V (As := [.int p]) (rest := []) S mi_X12_isPerson qw1611 (c_X12_isPerson l D A w α (k) mTaped mErr mPpl mBts mUs mRa mSt mKi mWd mVal mLet mFin mNp mNb mOuts mWant mFnd mTape mNum mNam mFst mBnm mW mUn mSl mKp mnNum mnNam mnBo mnBn p hB0) hK hP hD hE hS (hB0 0 _ rfl) rfl rfl rfl hl.1 (Nat.le_of_ble_eq_true rfl) rfl rfl ⟨(Nat.le_of_ble_eq_true rfl), (Nat.le_of_ble_eq_true rfl)⟩ ⟨(Nat.le_of_ble_eq_true rfl), (Nat.le_of_ble_eq_true rfl)⟩ dX12_carries_2) hS rfl (fun locs hS => ?_)
  refine g_bifeq (b := (f_X12_isPerson mPpl p)) (tgt := 16) S dX12_carries_5 (by decide) (fun (c1 : (f_X12_isPerson mPpl p) = false) => ?_) (fun (c1 : (f_X12_isPerson mPpl p) = true) => ?_)
  · refine lv_iconst (v := (-1)) S.1 S.2.1 dX12_carries_16 (by decide) ?_
    have hf : (f_X12_carries mPpl mW p) = (-1) := cd_f c1
    exact g_iretR S hr hlk hS (by rw [hf] <;> rfl) dX12_carries_17
  · have hh1 := isPerson_in (by assumption) c1
    refine lv_aload_n S.1 S.2.1 dX12_carries_8 rfl (lv_at hl 0 rfl) ?_
    refine lv_iload_n S.1 S.2.1 dX12_carries_9 rfl (lv_at hl 1 rfl) ?_
    refine g_aftR0 (st1 := [.int (f_X12_carriedBy mPpl mW p)]) (g_V (As := [.int p]) (rest := []) S mi_X12_carriedBy qw1641 (c_X12_carriedBy l D A w α (k) mTaped mErr mPpl mBts mUs mRa mSt mKi mWd mVal mLet mFin mNp mNb mOuts mWant mFnd mTape mNum mNam mFst mBnm mW mUn mSl mKp mnNum mnNam mnBo mnBn p hB0 (by first | assumption | exact vin_d (by decide) | exact vp_in_nI (by omega) (by decide) | decide | omega)) hK hP hD hE hS (hB0 0 _ rfl) rfl rfl rfl hl.1 (Nat.le_of_ble_eq_true rfl) rfl rfl ⟨(Nat.le_of_ble_eq_true rfl), (Nat.le_of_ble_eq_true rfl)⟩ ⟨(Nat.le_of_ble_eq_true rfl), (Nat.le_of_ble_eq_true rfl)⟩ dX12_carries_10) hS rfl (fun locs hS => ?_)
    refine lv_goto (tgt := 17) S.1 S.2.1 dX12_carries_13 (by decide) ?_
    have hf : (f_X12_carries mPpl mW p) = (f_X12_carriedBy mPpl mW p) := cd_t c1
    exact g_iretR S hr hlk hS (by rw [hf] <;> rfl) dX12_carries_17
def f_X12_wrongOnes (mPpl : Int32) (mW : Nat → Int32) : Int32 := (f_X12_wrongSet mPpl mW)
set_option maxHeartbeats 4000000 in
set_option maxRecDepth 100000 in
theorem c_X12_wrongOnes (l : Launch) (D : va_G) (A : Nat → Prop) (w : va_W) (α : Nat → Nat) (k : Nat) (mTaped : Int32) (mErr : Int32) (mPpl : Int32) (mBts : Int32) (mUs : Int32) (mRa : Int32) (mSt : Int32) (mKi : Int32) (mWd : Int64) (mVal : Int32) (mLet : Int32) (mFin : Int32) (mNp : Int32) (mNb : Int32) (mOuts : Int32) (mWant : Int32) (mFnd : Int32) (mTape : Nat → Int32) (mNum : Nat → Int32) (mNam : Nat → Int32) (mFst : Nat → Int32) (mBnm : Nat → Int32) (mW : Nat → Int32) (mUn : Nat → Int32) (mSl : Nat → Int32) (mKp : Nat → Int32) (mnNum : Nat → Int32) (mnNam : Nat → Int32) (mnBo : Nat → Int32) (mnBn : Nat → Int32) (hB0 : Blk w k (cM D α k mTaped mErr mPpl mBts mUs mRa mSt mKi mWd mVal mLet mFin mNp mNb mOuts mWant mFnd mTape mNum mNam mFst mBnm mW mUn mSl mKp mnNum mnNam mnBo mnBn)) (hy0 : vp_in mPpl 21) : Met l yX12_wrongOnes (ws_ yX12_wrongOnes cX12_wrongOnes 1 (some .int)) ({ frames := 2, cells := 0, slots := 0, locals := 44 }) (gPre D A [.ref (α (k))] w) (gR (some (.int (f_X12_wrongOnes mPpl mW)))) 0 0 A := by
  refine g_met [(0, .ref (α (k)))] (plainFor_of_name (by decide)) (Nat.le_of_ble_eq_true rfl) rfl (fun pg en s mi ar below me co ls S hK hP hD hE hS hr hlk hnm hl => ?_)
  have hpn := vin_lt (show vp_in mPpl 21 by assumption)
  refine lv_aload_n S.1 S.2.1 dX12_wrongOnes_0 rfl (lv_at hl 0 rfl) ?_
  refine g_aftR0 (st1 := [.int (f_X12_wrongSet mPpl mW)]) (g_V (As := []) (rest := []) S mi_X12_wrongSet qw1735 (c_X12_wrongSet l D A w α (k) mTaped mErr mPpl mBts mUs mRa mSt mKi mWd mVal mLet mFin mNp mNb mOuts mWant mFnd mTape mNum mNam mFst mBnm mW mUn mSl mKp mnNum mnNam mnBo mnBn hB0 (by first | assumption | exact vin_d (by decide) | exact vp_in_nI (by omega) (by decide) | decide | omega)) hK hP hD hE hS (hB0 0 _ rfl) rfl rfl rfl hl.1 (Nat.le_of_ble_eq_true rfl) rfl rfl ⟨(Nat.le_of_ble_eq_true rfl), (Nat.le_of_ble_eq_true rfl)⟩ ⟨(Nat.le_of_ble_eq_true rfl), (Nat.le_of_ble_eq_true rfl)⟩ dX12_wrongOnes_1) hS rfl (fun locs hS => ?_)
  have hf : (f_X12_wrongOnes mPpl mW) = (f_X12_wrongSet mPpl mW) := rfl
  exact g_iretR S hr hlk hS (by rw [hf] <;> rfl) dX12_wrongOnes_4
def f_X12_why (mPpl : Int32) (mNum : Nat → Int32) (mW : Nat → Int32) (p : Int32) (o : Int32) (b : Int32) : Int32 := (f_X12_would mPpl mNum mW p o b)
set_option maxHeartbeats 4000000 in
set_option maxRecDepth 100000 in
theorem c_X12_why (l : Launch) (D : va_G) (A : Nat → Prop) (w : va_W) (α : Nat → Nat) (k : Nat) (mTaped : Int32) (mErr : Int32) (mPpl : Int32) (mBts : Int32) (mUs : Int32) (mRa : Int32) (mSt : Int32) (mKi : Int32) (mWd : Int64) (mVal : Int32) (mLet : Int32) (mFin : Int32) (mNp : Int32) (mNb : Int32) (mOuts : Int32) (mWant : Int32) (mFnd : Int32) (mTape : Nat → Int32) (mNum : Nat → Int32) (mNam : Nat → Int32) (mFst : Nat → Int32) (mBnm : Nat → Int32) (mW : Nat → Int32) (mUn : Nat → Int32) (mSl : Nat → Int32) (mKp : Nat → Int32) (mnNum : Nat → Int32) (mnNam : Nat → Int32) (mnBo : Nat → Int32) (mnBn : Nat → Int32) (p : Int32) (o : Int32) (b : Int32) (hB0 : Blk w k (cM D α k mTaped mErr mPpl mBts mUs mRa mSt mKi mWd mVal mLet mFin mNp mNb mOuts mWant mFnd mTape mNum mNam mFst mBnm mW mUn mSl mKp mnNum mnNam mnBo mnBn)) (hy0 : vp_in mPpl 21) : Met l yX12_why (ws_ yX12_why cX12_why 4 (some .int)) ({ frames := 4, cells := 0, slots := 0, locals := 90 }) (gPre D A [.ref (α (k)), .int p, .int o, .int b] w) (gR (some (.int (f_X12_why mPpl mNum mW p o b)))) 0 0 A := by
  refine g_met [(0, .ref (α (k))), (1, .int p), (2, .int o), (3, .int b)] (plainFor_of_name (by decide)) (Nat.le_of_ble_eq_true rfl) rfl (fun pg en s mi ar below me co ls S hK hP hD hE hS hr hlk hnm hl => ?_)
  refine lv_aload_n S.1 S.2.1 dX12_why_0 rfl (lv_at hl 0 rfl) ?_
  refine lv_iload_n S.1 S.2.1 dX12_why_1 rfl (lv_at hl 1 rfl) ?_
  refine lv_iload_n S.1 S.2.1 dX12_why_2 rfl (lv_at hl 2 rfl) ?_
  refine lv_iload_n S.1 S.2.1 dX12_why_3 rfl (lv_at hl 3 rfl) ?_
  refine g_aftR0 (st1 := [.int (f_X12_would mPpl mNum mW p o b)]) (g_V (As := [.int p, .int o, .int b]) (rest := []) S mi_X12_would qw1656 (c_X12_would l D A w α (k) mTaped mErr mPpl mBts mUs mRa mSt mKi mWd mVal mLet mFin mNp mNb mOuts mWant mFnd mTape mNum mNam mFst mBnm mW mUn mSl mKp mnNum mnNam mnBo mnBn p o b hB0 (by first | assumption | exact vin_d (by decide) | exact vp_in_nI (by omega) (by decide) | decide | omega)) hK hP hD hE hS (hB0 0 _ rfl) rfl rfl rfl hl.1 (Nat.le_of_ble_eq_true rfl) rfl rfl ⟨(Nat.le_of_ble_eq_true rfl), (Nat.le_of_ble_eq_true rfl)⟩ ⟨(Nat.le_of_ble_eq_true rfl), (Nat.le_of_ble_eq_true rfl)⟩ dX12_why_4) hS rfl (fun locs hS => ?_)
  have hf : (f_X12_why mPpl mNum mW p o b) = (f_X12_would mPpl mNum mW p o b) := rfl
  exact g_iretR S hr hlk hS (by rw [hf] <;> rfl) dX12_why_7
def f_X12_past (mW : Nat → Int32) (v : Int32) (x : Int32) : Int32 := (if v < 0 then (-1) else (bif (f_X12_in x.toInt64 0 3) then (bif (f_X12_in v.toInt64 ((((mW 1) - (mW 2)) - 8).toInt64) ((((mW 1) - (mW 2)) - 1).toInt64)) then (mW ((247 + (4 * (v - v / 8 * 8))) + x).toNatClampNeg) else (-2)) else (-1)))
set_option maxHeartbeats 4000000 in
set_option maxRecDepth 100000 in
theorem c_X12_past (l : Launch) (D : va_G) (A : Nat → Prop) (w : va_W) (α : Nat → Nat) (k : Nat) (mTaped : Int32) (mErr : Int32) (mPpl : Int32) (mBts : Int32) (mUs : Int32) (mRa : Int32) (mSt : Int32) (mKi : Int32) (mWd : Int64) (mVal : Int32) (mLet : Int32) (mFin : Int32) (mNp : Int32) (mNb : Int32) (mOuts : Int32) (mWant : Int32) (mFnd : Int32) (mTape : Nat → Int32) (mNum : Nat → Int32) (mNam : Nat → Int32) (mFst : Nat → Int32) (mBnm : Nat → Int32) (mW : Nat → Int32) (mUn : Nat → Int32) (mSl : Nat → Int32) (mKp : Nat → Int32) (mnNum : Nat → Int32) (mnNam : Nat → Int32) (mnBo : Nat → Int32) (mnBn : Nat → Int32) (v : Int32) (x : Int32) (hB0 : Blk w k (cM D α k mTaped mErr mPpl mBts mUs mRa mSt mKi mWd mVal mLet mFin mNp mNb mOuts mWant mFnd mTape mNum mNam mFst mBnm mW mUn mSl mKp mnNum mnNam mnBo mnBn)) : Met l yX12_past (ws_ yX12_past cX12_past 4 (some .int)) ({ frames := 1, cells := 0, slots := 0, locals := 25 }) (gPre D A [.ref (α (k)), .int v, .int x] w) (gR (some (.int (f_X12_past mW v x)))) 0 0 A := by
  refine g_met [(0, .ref (α (k))), (1, .int v), (2, .int x)] (plainFor_of_name (by decide)) (Nat.le_of_ble_eq_true rfl) rfl (fun pg en s mi ar below me co ls S hK hP hD hE hS hr hlk hnm hl => ?_)
  refine lv_iload_n S.1 S.2.1 dX12_past_0 rfl (lv_at hl 1 rfl) ?_
  refine lv_if_lt (tgt := 16) S.1 S.2.1 dX12_past_1 (by decide) (fun (c1 : v < 0) => ?_) (fun (c1 : ¬ v < 0) => ?_)
  · refine lv_iconst (v := (-1)) S.1 S.2.1 dX12_past_16 (by decide) ?_
    have hf : (f_X12_past mW v x) = (-1) := if_pos c1
    exact g_iretR S hr hlk hS (by rw [hf] <;> rfl) dX12_past_17
  · refine lv_iload_n S.1 S.2.1 dX12_past_4 rfl (lv_at hl 2 rfl) ?_
    refine lv_i2l (v := x.toInt64) S.1 S.2.1 dX12_past_5 rfl ?_
    refine lv_lconst (v := 0) S.1 S.2.1 dX12_past_6 (by decide) ?_
    refine lv_ldc2 (v := 3) S.1 S.2.1 S.2.2.2.1 (S.2.2.2.2 _ qw1640) dX12_past_7 ?_
    refine g_aftR0 (st1 := [.int (b2i (f_X12_in x.toInt64 0 3))]) (g_St (As := [.long x.toInt64, .long 0, .long 3]) (rest := []) S ms_X12_in qw1477 (c_X12_in l D A w α x.toInt64 0 3) hK hP hD hE hS rfl rfl hl.1 (Nat.le_of_ble_eq_true rfl) rfl rfl ⟨(Nat.le_of_ble_eq_true rfl), (Nat.le_of_ble_eq_true rfl)⟩ ⟨(Nat.le_of_ble_eq_true rfl), (Nat.le_of_ble_eq_true rfl)⟩ dX12_past_10) hS rfl (fun locs hS => ?_)
    refine g_bifne (b := (f_X12_in x.toInt64 0 3)) (tgt := 18) S dX12_past_13 (by decide) (fun (c2 : (f_X12_in x.toInt64 0 3) = true) => ?_) (fun (c2 : (f_X12_in x.toInt64 0 3) = false) => ?_)
    · refine lv_aload_n S.1 S.2.1 dX12_past_18 rfl (lv_at hl 0 rfl) ?_
      refine g_get (v := .ref (α (k + 6))) S hK hP (hB0 0 _ rfl) rfl inX12 9 (by decide) qw1383 rfl dX12_past_19 ?_
      refine lv_iconst (v := 1) S.1 S.2.1 dX12_past_22 (by decide) ?_
      refine g_iald S hK hP (hB0 6 _ rfl) (by first | assumption | exact vin_d (by decide) | exact vp_in_nI (by omega) (by decide) | decide) dX12_past_23 ?_
      refine lv_aload_n S.1 S.2.1 dX12_past_24 rfl (lv_at hl 0 rfl) ?_
      refine g_get (v := .ref (α (k + 6))) S hK hP (hB0 0 _ rfl) rfl inX12 9 (by decide) qw1383 rfl dX12_past_25 ?_
      refine lv_iconst (v := 2) S.1 S.2.1 dX12_past_28 (by decide) ?_
      refine g_iald S hK hP (hB0 6 _ rfl) (by first | assumption | exact vin_d (by decide) | exact vp_in_nI (by omega) (by decide) | decide) dX12_past_29 ?_
      refine lv_isub S.1 S.2.1 dX12_past_30 ?_
      refine lv_istore_n (lv' := [(3, .int ((mW 1) - (mW 2))), (0, .ref (α (k))), (1, .int v), (2, .int x)]) S.1 S.2.1 dX12_past_31 rfl hl (by decide) rfl (fun ls hl => ?_)
      refine lv_iload_n S.1 S.2.1 dX12_past_32 rfl (lv_at hl 2 rfl) ?_
      refine lv_i2l (v := v.toInt64) S.1 S.2.1 dX12_past_33 rfl ?_
      refine lv_iload_n S.1 S.2.1 dX12_past_34 rfl (lv_at hl 0 rfl) ?_
      refine lv_bipush (v := 8) S.1 S.2.1 dX12_past_35 (by decide) ?_
      refine lv_isub S.1 S.2.1 dX12_past_37 ?_
      refine lv_i2l (v := (((mW 1) - (mW 2)) - 8).toInt64) S.1 S.2.1 dX12_past_38 rfl ?_
      refine lv_iload_n S.1 S.2.1 dX12_past_39 rfl (lv_at hl 0 rfl) ?_
      refine lv_iconst (v := 1) S.1 S.2.1 dX12_past_40 (by decide) ?_
      refine lv_isub S.1 S.2.1 dX12_past_41 ?_
      refine lv_i2l (v := (((mW 1) - (mW 2)) - 1).toInt64) S.1 S.2.1 dX12_past_42 rfl ?_
      refine g_aftR0 (st1 := [.int (b2i (f_X12_in v.toInt64 ((((mW 1) - (mW 2)) - 8).toInt64) ((((mW 1) - (mW 2)) - 1).toInt64)))]) (g_St (As := [.long v.toInt64, .long ((((mW 1) - (mW 2)) - 8).toInt64), .long ((((mW 1) - (mW 2)) - 1).toInt64)]) (rest := []) S ms_X12_in qw1477 (c_X12_in l D A w α v.toInt64 ((((mW 1) - (mW 2)) - 8).toInt64) ((((mW 1) - (mW 2)) - 1).toInt64)) hK hP hD hE hS rfl rfl hl.1 (Nat.le_of_ble_eq_true rfl) rfl rfl ⟨(Nat.le_of_ble_eq_true rfl), (Nat.le_of_ble_eq_true rfl)⟩ ⟨(Nat.le_of_ble_eq_true rfl), (Nat.le_of_ble_eq_true rfl)⟩ dX12_past_43) hS rfl (fun locs hS => ?_)
      refine g_bifeq (b := (f_X12_in v.toInt64 ((((mW 1) - (mW 2)) - 8).toInt64) ((((mW 1) - (mW 2)) - 1).toInt64))) (tgt := 69) S dX12_past_46 (by decide) (fun (c3 : (f_X12_in v.toInt64 ((((mW 1) - (mW 2)) - 8).toInt64) ((((mW 1) - (mW 2)) - 1).toInt64)) = false) => ?_) (fun (c3 : (f_X12_in v.toInt64 ((((mW 1) - (mW 2)) - 8).toInt64) ((((mW 1) - (mW 2)) - 1).toInt64)) = true) => ?_)
      · refine lv_bipush (v := (-2)) S.1 S.2.1 dX12_past_69 (by decide) ?_
        have hf : (f_X12_past mW v x) = (-2) := (if_neg c1).trans ((cd_t c2).trans (cd_f c3))
        exact g_iretR S hr hlk hS (by rw [hf] <;> rfl) dX12_past_71
      · refine lv_aload_n S.1 S.2.1 dX12_past_49 rfl (lv_at hl 1 rfl) ?_
        refine g_get (v := .ref (α (k + 6))) S hK hP (hB0 0 _ rfl) rfl inX12 9 (by decide) qw1383 rfl dX12_past_50 ?_
        refine lv_sipush (v := 247) S.1 S.2.1 dX12_past_53 (by decide) ?_
        refine lv_iconst (v := 4) S.1 S.2.1 dX12_past_56 (by decide) ?_
        refine lv_iload_n S.1 S.2.1 dX12_past_57 rfl (lv_at hl 2 rfl) ?_
        refine lv_bipush (v := 8) S.1 S.2.1 dX12_past_58 (by decide) ?_
        refine lv_irem S.1 S.2.1 dX12_past_60 (by first | assumption | exact vin_d (by decide) | exact vp_in_nI (by omega) (by decide) | decide) ?_
        refine lv_imul S.1 S.2.1 dX12_past_61 ?_
        refine lv_iadd S.1 S.2.1 dX12_past_62 ?_
        refine lv_iload_n S.1 S.2.1 dX12_past_63 rfl (lv_at hl 3 rfl) ?_
        refine lv_iadd S.1 S.2.1 dX12_past_64 ?_
        refine g_iald S hK hP (hB0 6 _ rfl) (past_in (by assumption) (in_vin (b := 3) (by decide) (by assumption))) dX12_past_65 ?_
        refine lv_goto (tgt := 71) S.1 S.2.1 dX12_past_66 (by decide) ?_
        have hf : (f_X12_past mW v x) = (mW ((247 + (4 * (v - v / 8 * 8))) + x).toNatClampNeg) := (if_neg c1).trans ((cd_t c2).trans (cd_t c3))
        exact g_iretR S hr hlk hS (by rw [hf] <;> rfl) dX12_past_71
    · refine lv_iconst (v := (-1)) S.1 S.2.1 dX12_past_16 (by decide) ?_
      have hf : (f_X12_past mW v x) = (-1) := (if_neg c1).trans (cd_f c2)
      exact g_iretR S hr hlk hS (by rw [hf] <;> rfl) dX12_past_17
def f_X12_log (mW : Nat → Int32) (i : Int32) (x : Int32) : Int32 := (if i < 0 then (-1) else (bif (f_X12_in x.toInt64 0 3) then (if (mW 8) ≤ i then (-2) else (mW ((279 + (4 * i)) + x).toNatClampNeg)) else (-1)))
set_option maxHeartbeats 4000000 in
set_option maxRecDepth 100000 in
theorem c_X12_log (l : Launch) (D : va_G) (A : Nat → Prop) (w : va_W) (α : Nat → Nat) (k : Nat) (mTaped : Int32) (mErr : Int32) (mPpl : Int32) (mBts : Int32) (mUs : Int32) (mRa : Int32) (mSt : Int32) (mKi : Int32) (mWd : Int64) (mVal : Int32) (mLet : Int32) (mFin : Int32) (mNp : Int32) (mNb : Int32) (mOuts : Int32) (mWant : Int32) (mFnd : Int32) (mTape : Nat → Int32) (mNum : Nat → Int32) (mNam : Nat → Int32) (mFst : Nat → Int32) (mBnm : Nat → Int32) (mW : Nat → Int32) (mUn : Nat → Int32) (mSl : Nat → Int32) (mKp : Nat → Int32) (mnNum : Nat → Int32) (mnNam : Nat → Int32) (mnBo : Nat → Int32) (mnBn : Nat → Int32) (i : Int32) (x : Int32) (hB0 : Blk w k (cM D α k mTaped mErr mPpl mBts mUs mRa mSt mKi mWd mVal mLet mFin mNp mNb mOuts mWant mFnd mTape mNum mNam mFst mBnm mW mUn mSl mKp mnNum mnNam mnBo mnBn)) (hy0 : vp_in (mW 8) 31) : Met l yX12_log (ws_ yX12_log cX12_log 3 (some .int)) ({ frames := 1, cells := 0, slots := 0, locals := 25 }) (gPre D A [.ref (α (k)), .int i, .int x] w) (gR (some (.int (f_X12_log mW i x)))) 0 0 A := by
  refine g_met [(0, .ref (α (k))), (1, .int i), (2, .int x)] (plainFor_of_name (by decide)) (Nat.le_of_ble_eq_true rfl) rfl (fun pg en s mi ar below me co ls S hK hP hD hE hS hr hlk hnm hl => ?_)
  refine lv_iload_n S.1 S.2.1 dX12_log_0 rfl (lv_at hl 1 rfl) ?_
  refine lv_if_lt (tgt := 16) S.1 S.2.1 dX12_log_1 (by decide) (fun (c1 : i < 0) => ?_) (fun (c1 : ¬ i < 0) => ?_)
  · refine lv_iconst (v := (-1)) S.1 S.2.1 dX12_log_16 (by decide) ?_
    have hf : (f_X12_log mW i x) = (-1) := if_pos c1
    exact g_iretR S hr hlk hS (by rw [hf] <;> rfl) dX12_log_17
  · refine lv_iload_n S.1 S.2.1 dX12_log_4 rfl (lv_at hl 2 rfl) ?_
    refine lv_i2l (v := x.toInt64) S.1 S.2.1 dX12_log_5 rfl ?_
    refine lv_lconst (v := 0) S.1 S.2.1 dX12_log_6 (by decide) ?_
    refine lv_ldc2 (v := 3) S.1 S.2.1 S.2.2.2.1 (S.2.2.2.2 _ qw1640) dX12_log_7 ?_
    refine g_aftR0 (st1 := [.int (b2i (f_X12_in x.toInt64 0 3))]) (g_St (As := [.long x.toInt64, .long 0, .long 3]) (rest := []) S ms_X12_in qw1477 (c_X12_in l D A w α x.toInt64 0 3) hK hP hD hE hS rfl rfl hl.1 (Nat.le_of_ble_eq_true rfl) rfl rfl ⟨(Nat.le_of_ble_eq_true rfl), (Nat.le_of_ble_eq_true rfl)⟩ ⟨(Nat.le_of_ble_eq_true rfl), (Nat.le_of_ble_eq_true rfl)⟩ dX12_log_10) hS rfl (fun locs hS => ?_)
    refine g_bifne (b := (f_X12_in x.toInt64 0 3)) (tgt := 18) S dX12_log_13 (by decide) (fun (c2 : (f_X12_in x.toInt64 0 3) = true) => ?_) (fun (c2 : (f_X12_in x.toInt64 0 3) = false) => ?_)
    · refine lv_iload_n S.1 S.2.1 dX12_log_18 rfl (lv_at hl 1 rfl) ?_
      refine lv_aload_n S.1 S.2.1 dX12_log_19 rfl (lv_at hl 0 rfl) ?_
      refine g_get (v := .ref (α (k + 6))) S hK hP (hB0 0 _ rfl) rfl inX12 9 (by decide) qw1383 rfl dX12_log_20 ?_
      refine lv_bipush (v := 8) S.1 S.2.1 dX12_log_23 (by decide) ?_
      refine g_iald S hK hP (hB0 6 _ rfl) (by first | assumption | exact vin_d (by decide) | exact vp_in_nI (by omega) (by decide) | decide) dX12_log_25 ?_
      refine lv_icmp_ge (tgt := 46) S.1 S.2.1 dX12_log_26 (by decide) (fun (c3 : (mW 8) ≤ i) => ?_) (fun (c3 : ¬ (mW 8) ≤ i) => ?_)
      · refine lv_bipush (v := (-2)) S.1 S.2.1 dX12_log_46 (by decide) ?_
        have hf : (f_X12_log mW i x) = (-2) := (if_neg c1).trans ((cd_t c2).trans (if_pos c3))
        exact g_iretR S hr hlk hS (by rw [hf] <;> rfl) dX12_log_48
      · refine lv_aload_n S.1 S.2.1 dX12_log_29 rfl (lv_at hl 0 rfl) ?_
        refine g_get (v := .ref (α (k + 6))) S hK hP (hB0 0 _ rfl) rfl inX12 9 (by decide) qw1383 rfl dX12_log_30 ?_
        refine lv_sipush (v := 279) S.1 S.2.1 dX12_log_33 (by decide) ?_
        refine lv_iconst (v := 4) S.1 S.2.1 dX12_log_36 (by decide) ?_
        refine lv_iload_n S.1 S.2.1 dX12_log_37 rfl (lv_at hl 1 rfl) ?_
        refine lv_imul S.1 S.2.1 dX12_log_38 ?_
        refine lv_iadd S.1 S.2.1 dX12_log_39 ?_
        refine lv_iload_n S.1 S.2.1 dX12_log_40 rfl (lv_at hl 2 rfl) ?_
        refine lv_iadd S.1 S.2.1 dX12_log_41 ?_
        refine g_iald S hK hP (hB0 6 _ rfl) (log_in (by assumption) (by assumption) (Int32.not_le.mp (by assumption)) (in_vin (b := 3) (by decide) (by assumption))) dX12_log_42 ?_
        refine lv_goto (tgt := 48) S.1 S.2.1 dX12_log_43 (by decide) ?_
        have hf : (f_X12_log mW i x) = (mW ((279 + (4 * i)) + x).toNatClampNeg) := (if_neg c1).trans ((cd_t c2).trans (if_neg c3))
        exact g_iretR S hr hlk hS (by rw [hf] <;> rfl) dX12_log_48
    · refine lv_iconst (v := (-1)) S.1 S.2.1 dX12_log_16 (by decide) ?_
      have hf : (f_X12_log mW i x) = (-1) := (if_neg c1).trans (cd_f c2)
      exact g_iretR S hr hlk hS (by rw [hf] <;> rfl) dX12_log_17
def f_X12_needIfHome (mPpl : Int32) (mBts : Int32) (mNum : Nat → Int32) (mW : Nat → Int32) (b : Int32) : Int32 := (bif (f_X12_isBoat mBts b) then (bif (f_X12_isOut mW b) then (f_X12_needOn mPpl mNum (mW 0) ((f_X12_outOn mBts mW (mW 0)) - 1)) else (-4)) else (-1))
set_option maxHeartbeats 4000000 in
set_option maxRecDepth 100000 in
theorem c_X12_needIfHome (l : Launch) (D : va_G) (A : Nat → Prop) (w : va_W) (α : Nat → Nat) (k : Nat) (mTaped : Int32) (mErr : Int32) (mPpl : Int32) (mBts : Int32) (mUs : Int32) (mRa : Int32) (mSt : Int32) (mKi : Int32) (mWd : Int64) (mVal : Int32) (mLet : Int32) (mFin : Int32) (mNp : Int32) (mNb : Int32) (mOuts : Int32) (mWant : Int32) (mFnd : Int32) (mTape : Nat → Int32) (mNum : Nat → Int32) (mNam : Nat → Int32) (mFst : Nat → Int32) (mBnm : Nat → Int32) (mW : Nat → Int32) (mUn : Nat → Int32) (mSl : Nat → Int32) (mKp : Nat → Int32) (mnNum : Nat → Int32) (mnNam : Nat → Int32) (mnBo : Nat → Int32) (mnBn : Nat → Int32) (b : Int32) (hB0 : Blk w k (cM D α k mTaped mErr mPpl mBts mUs mRa mSt mKi mWd mVal mLet mFin mNp mNb mOuts mWant mFnd mTape mNum mNam mFst mBnm mW mUn mSl mKp mnNum mnNam mnBo mnBn)) (hy0 : vp_in mPpl 21) (hy1 : 0 ≤ mW 0) (hy2 : 0 < mNum 0) (hy3 : vp_in mBts 7) : Met l yX12_needIfHome (ws_ yX12_needIfHome cX12_needIfHome 2 (some .int)) ({ frames := 3, cells := 0, slots := 0, locals := 66 }) (gPre D A [.ref (α (k)), .int b] w) (gR (some (.int (f_X12_needIfHome mPpl mBts mNum mW b)))) 0 0 A := by
  refine g_met [(0, .ref (α (k))), (1, .int b)] (plainFor_of_name (by decide)) (Nat.le_of_ble_eq_true rfl) rfl (fun pg en s mi ar below me co ls S hK hP hD hE hS hr hlk hnm hl => ?_)
  have hpn := vin_lt (show vp_in mPpl 21 by assumption)
  refine lv_aload_n S.1 S.2.1 dX12_needIfHome_0 rfl (lv_at hl 0 rfl) ?_
  refine lv_iload_n S.1 S.2.1 dX12_needIfHome_1 rfl (lv_at hl 1 rfl) ?_
  refine g_aftR0 (st1 := [.int (b2i (f_X12_isBoat mBts b))]) (g_V (As := [.int b]) (rest := []) S mi_X12_isBoat qw1562 (c_X12_isBoat l D A w α (k) mTaped mErr mPpl mBts mUs mRa mSt mKi mWd mVal mLet mFin mNp mNb mOuts mWant mFnd mTape mNum mNam mFst mBnm mW mUn mSl mKp mnNum mnNam mnBo mnBn b hB0) hK hP hD hE hS (hB0 0 _ rfl) rfl rfl rfl hl.1 (Nat.le_of_ble_eq_true rfl) rfl rfl ⟨(Nat.le_of_ble_eq_true rfl), (Nat.le_of_ble_eq_true rfl)⟩ ⟨(Nat.le_of_ble_eq_true rfl), (Nat.le_of_ble_eq_true rfl)⟩ dX12_needIfHome_2) hS rfl (fun locs hS => ?_)
  refine g_bifne (b := (f_X12_isBoat mBts b)) (tgt := 10) S dX12_needIfHome_5 (by decide) (fun (c1 : (f_X12_isBoat mBts b) = true) => ?_) (fun (c1 : (f_X12_isBoat mBts b) = false) => ?_)
  · have hh1 := isBoat_in (by assumption) c1
    refine lv_aload_n S.1 S.2.1 dX12_needIfHome_10 rfl (lv_at hl 0 rfl) ?_
    refine lv_iload_n S.1 S.2.1 dX12_needIfHome_11 rfl (lv_at hl 1 rfl) ?_
    refine g_aftR0 (st1 := [.int (b2i (f_X12_isOut mW b))]) (g_V (As := [.int b]) (rest := []) S mi_X12_isOut qw1567 (c_X12_isOut l D A w α (k) mTaped mErr mPpl mBts mUs mRa mSt mKi mWd mVal mLet mFin mNp mNb mOuts mWant mFnd mTape mNum mNam mFst mBnm mW mUn mSl mKp mnNum mnNam mnBo mnBn b hB0 (by first | assumption | exact vin_d (by decide) | exact vp_in_nI (by omega) (by decide) | decide | omega)) hK hP hD hE hS (hB0 0 _ rfl) rfl rfl rfl hl.1 (Nat.le_of_ble_eq_true rfl) rfl rfl ⟨(Nat.le_of_ble_eq_true rfl), (Nat.le_of_ble_eq_true rfl)⟩ ⟨(Nat.le_of_ble_eq_true rfl), (Nat.le_of_ble_eq_true rfl)⟩ dX12_needIfHome_12) hS rfl (fun locs hS => ?_)
    refine g_bifeq (b := (f_X12_isOut mW b)) (tgt := 43) S dX12_needIfHome_15 (by decide) (fun (c2 : (f_X12_isOut mW b) = false) => ?_) (fun (c2 : (f_X12_isOut mW b) = true) => ?_)
    · refine lv_bipush (v := (-4)) S.1 S.2.1 dX12_needIfHome_43 (by decide) ?_
      have hf : (f_X12_needIfHome mPpl mBts mNum mW b) = (-4) := (cd_t c1).trans (cd_f c2)
      exact g_iretR S hr hlk hS (by rw [hf] <;> rfl) dX12_needIfHome_45
    · refine lv_aload_n S.1 S.2.1 dX12_needIfHome_18 rfl (lv_at hl 0 rfl) ?_
      refine lv_aload_n S.1 S.2.1 dX12_needIfHome_19 rfl (lv_at hl 0 rfl) ?_
      refine g_get (v := .ref (α (k + 6))) S hK hP (hB0 0 _ rfl) rfl inX12 9 (by decide) qw1383 rfl dX12_needIfHome_20 ?_
      refine lv_iconst (v := 0) S.1 S.2.1 dX12_needIfHome_23 (by decide) ?_
      refine g_iald S hK hP (hB0 6 _ rfl) (by first | assumption | exact vin_d (by decide) | exact vp_in_nI (by omega) (by decide) | decide) dX12_needIfHome_24 ?_
      refine lv_aload_n S.1 S.2.1 dX12_needIfHome_25 rfl (lv_at hl 0 rfl) ?_
      refine lv_aload_n S.1 S.2.1 dX12_needIfHome_26 rfl (lv_at hl 0 rfl) ?_
      refine g_get (v := .ref (α (k + 6))) S hK hP (hB0 0 _ rfl) rfl inX12 9 (by decide) qw1383 rfl dX12_needIfHome_27 ?_
      refine lv_iconst (v := 0) S.1 S.2.1 dX12_needIfHome_30 (by decide) ?_
      refine g_iald S hK hP (hB0 6 _ rfl) (by first | assumption | exact vin_d (by decide) | exact vp_in_nI (by omega) (by decide) | decide) dX12_needIfHome_31 ?_
      refine g_aftR0 (st1 := [.int (f_X12_outOn mBts mW (mW 0)), .int (mW 0), .ref (α (k))]) (g_V (As := [.int (mW 0)]) (rest := [.int (mW 0), .ref (α (k))]) S mi_X12_outOn qw1700 (c_X12_outOn l D A w α (k) mTaped mErr mPpl mBts mUs mRa mSt mKi mWd mVal mLet mFin mNp mNb mOuts mWant mFnd mTape mNum mNam mFst mBnm mW mUn mSl mKp mnNum mnNam mnBo mnBn (mW 0) hB0 (by first | assumption | exact vin_d (by decide) | exact vp_in_nI (by omega) (by decide) | decide | omega)) hK hP hD hE hS (hB0 0 _ rfl) rfl rfl rfl hl.1 (Nat.le_of_ble_eq_true rfl) rfl rfl ⟨(Nat.le_of_ble_eq_true rfl), (Nat.le_of_ble_eq_true rfl)⟩ ⟨(Nat.le_of_ble_eq_true rfl), (Nat.le_of_ble_eq_true rfl)⟩ dX12_needIfHome_32) hS rfl (fun locs hS => ?_)
      refine lv_iconst (v := 1) S.1 S.2.1 dX12_needIfHome_35 (by decide) ?_
      refine lv_isub S.1 S.2.1 dX12_needIfHome_36 ?_
      refine g_aftR0 (st1 := [.int (f_X12_needOn mPpl mNum (mW 0) ((f_X12_outOn mBts mW (mW 0)) - 1))]) (g_V (As := [.int (mW 0), .int ((f_X12_outOn mBts mW (mW 0)) - 1)]) (rest := []) S mi_X12_needOn qw1704 (c_X12_needOn l D A w α (k) mTaped mErr mPpl mBts mUs mRa mSt mKi mWd mVal mLet mFin mNp mNb mOuts mWant mFnd mTape mNum mNam mFst mBnm mW mUn mSl mKp mnNum mnNam mnBo mnBn (mW 0) ((f_X12_outOn mBts mW (mW 0)) - 1) hB0 (by first | assumption | exact vin_d (by decide) | exact vp_in_nI (by omega) (by decide) | decide | omega) (by first | assumption | exact vin_d (by decide) | exact vp_in_nI (by omega) (by decide) | decide | omega)) hK hP hD hE hS (hB0 0 _ rfl) rfl rfl rfl hl.1 (Nat.le_of_ble_eq_true rfl) rfl rfl ⟨(Nat.le_of_ble_eq_true rfl), (Nat.le_of_ble_eq_true rfl)⟩ ⟨(Nat.le_of_ble_eq_true rfl), (Nat.le_of_ble_eq_true rfl)⟩ dX12_needIfHome_37) hS rfl (fun locs hS => ?_)
      refine lv_goto (tgt := 45) S.1 S.2.1 dX12_needIfHome_40 (by decide) ?_
      have hf : (f_X12_needIfHome mPpl mBts mNum mW b) = (f_X12_needOn mPpl mNum (mW 0) ((f_X12_outOn mBts mW (mW 0)) - 1)) := (cd_t c1).trans (cd_t c2)
      exact g_iretR S hr hlk hS (by rw [hf] <;> rfl) dX12_needIfHome_45
  · refine lv_iconst (v := (-1)) S.1 S.2.1 dX12_needIfHome_8 (by decide) ?_
    have hf : (f_X12_needIfHome mPpl mBts mNum mW b) = (-1) := cd_f c1
    exact g_iretR S hr hlk hS (by rw [hf] <;> rfl) dX12_needIfHome_9
def f_X12_leads (mPpl : Int32) (mBts : Int32) (mNum : Nat → Int32) (mW : Nat → Int32) : Int32 := (bif (f_X12_isOpen mW) then (f_X12_resultNow mPpl mBts mNum mW) else (-5))
set_option maxHeartbeats 4000000 in
set_option maxRecDepth 100000 in
theorem c_X12_leads (l : Launch) (D : va_G) (A : Nat → Prop) (w : va_W) (α : Nat → Nat) (k : Nat) (mTaped : Int32) (mErr : Int32) (mPpl : Int32) (mBts : Int32) (mUs : Int32) (mRa : Int32) (mSt : Int32) (mKi : Int32) (mWd : Int64) (mVal : Int32) (mLet : Int32) (mFin : Int32) (mNp : Int32) (mNb : Int32) (mOuts : Int32) (mWant : Int32) (mFnd : Int32) (mTape : Nat → Int32) (mNum : Nat → Int32) (mNam : Nat → Int32) (mFst : Nat → Int32) (mBnm : Nat → Int32) (mW : Nat → Int32) (mUn : Nat → Int32) (mSl : Nat → Int32) (mKp : Nat → Int32) (mnNum : Nat → Int32) (mnNam : Nat → Int32) (mnBo : Nat → Int32) (mnBn : Nat → Int32) (hB0 : Blk w k (cM D α k mTaped mErr mPpl mBts mUs mRa mSt mKi mWd mVal mLet mFin mNp mNb mOuts mWant mFnd mTape mNum mNam mFst mBnm mW mUn mSl mKp mnNum mnNam mnBo mnBn)) (hy0 : vp_in mPpl 21) (hy1 : 0 ≤ mW 0) (hy2 : 0 < mNum 0) (hy3 : vp_in mBts 7) : Met l yX12_leads (ws_ yX12_leads cX12_leads 1 (some .int)) ({ frames := 6, cells := 0, slots := 0, locals := 128 }) (gPre D A [.ref (α (k))] w) (gR (some (.int (f_X12_leads mPpl mBts mNum mW)))) 0 0 A := by
  refine g_met [(0, .ref (α (k)))] (plainFor_of_name (by decide)) (Nat.le_of_ble_eq_true rfl) rfl (fun pg en s mi ar below me co ls S hK hP hD hE hS hr hlk hnm hl => ?_)
  have hpn := vin_lt (show vp_in mPpl 21 by assumption)
  refine lv_aload_n S.1 S.2.1 dX12_leads_0 rfl (lv_at hl 0 rfl) ?_
  refine g_aftR0 (st1 := [.int (b2i (f_X12_isOpen mW))]) (g_V (As := []) (rest := []) S mi_X12_isOpen qw1621 (c_X12_isOpen l D A w α (k) mTaped mErr mPpl mBts mUs mRa mSt mKi mWd mVal mLet mFin mNp mNb mOuts mWant mFnd mTape mNum mNam mFst mBnm mW mUn mSl mKp mnNum mnNam mnBo mnBn hB0) hK hP hD hE hS (hB0 0 _ rfl) rfl rfl rfl hl.1 (Nat.le_of_ble_eq_true rfl) rfl rfl ⟨(Nat.le_of_ble_eq_true rfl), (Nat.le_of_ble_eq_true rfl)⟩ ⟨(Nat.le_of_ble_eq_true rfl), (Nat.le_of_ble_eq_true rfl)⟩ dX12_leads_1) hS rfl (fun locs hS => ?_)
  refine g_bifeq (b := (f_X12_isOpen mW)) (tgt := 14) S dX12_leads_4 (by decide) (fun (c1 : (f_X12_isOpen mW) = false) => ?_) (fun (c1 : (f_X12_isOpen mW) = true) => ?_)
  · refine lv_bipush (v := (-5)) S.1 S.2.1 dX12_leads_14 (by decide) ?_
    have hf : (f_X12_leads mPpl mBts mNum mW) = (-5) := cd_f c1
    exact g_iretR S hr hlk hS (by rw [hf] <;> rfl) dX12_leads_16
  · refine lv_aload_n S.1 S.2.1 dX12_leads_7 rfl (lv_at hl 0 rfl) ?_
    refine g_aftR0 (st1 := [.int (f_X12_resultNow mPpl mBts mNum mW)]) (g_V (As := []) (rest := []) S mi_X12_resultNow qw1688 (c_X12_resultNow l D A w α (k) mTaped mErr mPpl mBts mUs mRa mSt mKi mWd mVal mLet mFin mNp mNb mOuts mWant mFnd mTape mNum mNam mFst mBnm mW mUn mSl mKp mnNum mnNam mnBo mnBn hB0 (by first | assumption | exact vin_d (by decide) | exact vp_in_nI (by omega) (by decide) | decide | omega) (by first | assumption | exact vin_d (by decide) | exact vp_in_nI (by omega) (by decide) | decide | omega) (by first | assumption | exact vin_d (by decide) | exact vp_in_nI (by omega) (by decide) | decide | omega) (by first | assumption | exact vin_d (by decide) | exact vp_in_nI (by omega) (by decide) | decide | omega)) hK hP hD hE hS (hB0 0 _ rfl) rfl rfl rfl hl.1 (Nat.le_of_ble_eq_true rfl) rfl rfl ⟨(Nat.le_of_ble_eq_true rfl), (Nat.le_of_ble_eq_true rfl)⟩ ⟨(Nat.le_of_ble_eq_true rfl), (Nat.le_of_ble_eq_true rfl)⟩ dX12_leads_8) hS rfl (fun locs hS => ?_)
    refine lv_goto (tgt := 16) S.1 S.2.1 dX12_leads_11 (by decide) ?_
    have hf : (f_X12_leads mPpl mBts mNum mW) = (f_X12_resultNow mPpl mBts mNum mW) := cd_t c1
    exact g_iretR S hr hlk hS (by rw [hf] <;> rfl) dX12_leads_16
def f_X12_truly (mPpl : Int32) (mBts : Int32) (mNum : Nat → Int32) (mW : Nat → Int32) : Int32 := (if (mW 1) = 0 then (-5) else (f_X12_resultOf mPpl mW (f_X12_needNow mPpl mBts mNum mW) (f_X12_wrongSet mPpl mW) 0 (-2)))
set_option maxHeartbeats 4000000 in
set_option maxRecDepth 100000 in
theorem c_X12_truly (l : Launch) (D : va_G) (A : Nat → Prop) (w : va_W) (α : Nat → Nat) (k : Nat) (mTaped : Int32) (mErr : Int32) (mPpl : Int32) (mBts : Int32) (mUs : Int32) (mRa : Int32) (mSt : Int32) (mKi : Int32) (mWd : Int64) (mVal : Int32) (mLet : Int32) (mFin : Int32) (mNp : Int32) (mNb : Int32) (mOuts : Int32) (mWant : Int32) (mFnd : Int32) (mTape : Nat → Int32) (mNum : Nat → Int32) (mNam : Nat → Int32) (mFst : Nat → Int32) (mBnm : Nat → Int32) (mW : Nat → Int32) (mUn : Nat → Int32) (mSl : Nat → Int32) (mKp : Nat → Int32) (mnNum : Nat → Int32) (mnNam : Nat → Int32) (mnBo : Nat → Int32) (mnBn : Nat → Int32) (hB0 : Blk w k (cM D α k mTaped mErr mPpl mBts mUs mRa mSt mKi mWd mVal mLet mFin mNp mNb mOuts mWant mFnd mTape mNum mNam mFst mBnm mW mUn mSl mKp mnNum mnNam mnBo mnBn)) (hy0 : vp_in mPpl 21) (hy1 : 0 ≤ mW 0) (hy2 : 0 < mNum 0) (hy3 : vp_in mBts 7) : Met l yX12_truly (ws_ yX12_truly cX12_truly 1 (some .int)) ({ frames := 5, cells := 0, slots := 0, locals := 108 }) (gPre D A [.ref (α (k))] w) (gR (some (.int (f_X12_truly mPpl mBts mNum mW)))) 0 0 A := by
  refine g_met [(0, .ref (α (k)))] (plainFor_of_name (by decide)) (Nat.le_of_ble_eq_true rfl) rfl (fun pg en s mi ar below me co ls S hK hP hD hE hS hr hlk hnm hl => ?_)
  have hpn := vin_lt (show vp_in mPpl 21 by assumption)
  refine lv_aload_n S.1 S.2.1 dX12_truly_0 rfl (lv_at hl 0 rfl) ?_
  refine g_get (v := .ref (α (k + 6))) S hK hP (hB0 0 _ rfl) rfl inX12 9 (by decide) qw1383 rfl dX12_truly_1 ?_
  refine lv_iconst (v := 1) S.1 S.2.1 dX12_truly_4 (by decide) ?_
  refine g_iald S hK hP (hB0 6 _ rfl) (by first | assumption | exact vin_d (by decide) | exact vp_in_nI (by omega) (by decide) | decide) dX12_truly_5 ?_
  refine lv_if_ne (tgt := 14) S.1 S.2.1 dX12_truly_6 (by decide) (fun (c1 : ¬ (mW 1) = 0) => ?_) (fun (c1 : (mW 1) = 0) => ?_)
  · refine lv_aload_n S.1 S.2.1 dX12_truly_14 rfl (lv_at hl 0 rfl) ?_
    refine lv_aload_n S.1 S.2.1 dX12_truly_15 rfl (lv_at hl 0 rfl) ?_
    refine g_aftR0 (st1 := [.int (f_X12_needNow mPpl mBts mNum mW), .ref (α (k))]) (g_V (As := []) (rest := [.ref (α (k))]) S mi_X12_needNow qw1692 (c_X12_needNow l D A w α (k) mTaped mErr mPpl mBts mUs mRa mSt mKi mWd mVal mLet mFin mNp mNb mOuts mWant mFnd mTape mNum mNam mFst mBnm mW mUn mSl mKp mnNum mnNam mnBo mnBn hB0 (by first | assumption | exact vin_d (by decide) | exact vp_in_nI (by omega) (by decide) | decide | omega) (by first | assumption | exact vin_d (by decide) | exact vp_in_nI (by omega) (by decide) | decide | omega) (by first | assumption | exact vin_d (by decide) | exact vp_in_nI (by omega) (by decide) | decide | omega)) hK hP hD hE hS (hB0 0 _ rfl) rfl rfl rfl hl.1 (Nat.le_of_ble_eq_true rfl) rfl rfl ⟨(Nat.le_of_ble_eq_true rfl), (Nat.le_of_ble_eq_true rfl)⟩ ⟨(Nat.le_of_ble_eq_true rfl), (Nat.le_of_ble_eq_true rfl)⟩ dX12_truly_16) hS rfl (fun locs hS => ?_)
    refine lv_aload_n S.1 S.2.1 dX12_truly_19 rfl (lv_at hl 0 rfl) ?_
    refine g_aftR0 (st1 := [.int (f_X12_wrongSet mPpl mW), .int (f_X12_needNow mPpl mBts mNum mW), .ref (α (k))]) (g_V (As := []) (rest := [.int (f_X12_needNow mPpl mBts mNum mW), .ref (α (k))]) S mi_X12_wrongSet qw1735 (c_X12_wrongSet l D A w α (k) mTaped mErr mPpl mBts mUs mRa mSt mKi mWd mVal mLet mFin mNp mNb mOuts mWant mFnd mTape mNum mNam mFst mBnm mW mUn mSl mKp mnNum mnNam mnBo mnBn hB0 (by first | assumption | exact vin_d (by decide) | exact vp_in_nI (by omega) (by decide) | decide | omega)) hK hP hD hE hS (hB0 0 _ rfl) rfl rfl rfl hl.1 (Nat.le_of_ble_eq_true rfl) rfl rfl ⟨(Nat.le_of_ble_eq_true rfl), (Nat.le_of_ble_eq_true rfl)⟩ ⟨(Nat.le_of_ble_eq_true rfl), (Nat.le_of_ble_eq_true rfl)⟩ dX12_truly_20) hS rfl (fun locs hS => ?_)
    refine lv_iconst (v := 0) S.1 S.2.1 dX12_truly_23 (by decide) ?_
    refine lv_bipush (v := (-2)) S.1 S.2.1 dX12_truly_24 (by decide) ?_
    refine g_aftR0 (st1 := [.int (f_X12_resultOf mPpl mW (f_X12_needNow mPpl mBts mNum mW) (f_X12_wrongSet mPpl mW) 0 (-2))]) (g_V (As := [.int (f_X12_needNow mPpl mBts mNum mW), .int (f_X12_wrongSet mPpl mW), .int 0, .int (-2)]) (rest := []) S mi_X12_resultOf qw1708 (c_X12_resultOf l D A w α (k) mTaped mErr mPpl mBts mUs mRa mSt mKi mWd mVal mLet mFin mNp mNb mOuts mWant mFnd mTape mNum mNam mFst mBnm mW mUn mSl mKp mnNum mnNam mnBo mnBn (f_X12_needNow mPpl mBts mNum mW) (f_X12_wrongSet mPpl mW) 0 (-2) hB0 (by first | assumption | exact vin_d (by decide) | exact vp_in_nI (by omega) (by decide) | decide | omega) (by exact low20_0)) hK hP hD hE hS (hB0 0 _ rfl) rfl rfl rfl hl.1 (Nat.le_of_ble_eq_true rfl) rfl rfl ⟨(Nat.le_of_ble_eq_true rfl), (Nat.le_of_ble_eq_true rfl)⟩ ⟨(Nat.le_of_ble_eq_true rfl), (Nat.le_of_ble_eq_true rfl)⟩ dX12_truly_26) hS rfl (fun locs hS => ?_)
    have hf : (f_X12_truly mPpl mBts mNum mW) = (f_X12_resultOf mPpl mW (f_X12_needNow mPpl mBts mNum mW) (f_X12_wrongSet mPpl mW) 0 (-2)) := if_neg c1
    exact g_iretR S hr hlk hS (by rw [hf] <;> rfl) dX12_truly_29
  · refine lv_bipush (v := (-5)) S.1 S.2.1 dX12_truly_9 (by decide) ?_
    refine lv_goto (tgt := 29) S.1 S.2.1 dX12_truly_11 (by decide) ?_
    have hf : (f_X12_truly mPpl mBts mNum mW) = (-5) := if_pos c1
    exact g_iretR S hr hlk hS (by rw [hf] <;> rfl) dX12_truly_29
def f_X12_lacks (mPpl : Int32) (mBts : Int32) (mNum : Nat → Int32) (mW : Nat → Int32) : Int32 := (bif (f_X12_isOpen mW) then (if 0 ≤ ((f_X12_needNow mPpl mBts mNum mW) - (f_X12_turnout mPpl mW)) then ((f_X12_needNow mPpl mBts mNum mW) - (f_X12_turnout mPpl mW)) else 0) else (-5))
set_option maxHeartbeats 4000000 in
set_option maxRecDepth 100000 in
theorem c_X12_lacks (l : Launch) (D : va_G) (A : Nat → Prop) (w : va_W) (α : Nat → Nat) (k : Nat) (mTaped : Int32) (mErr : Int32) (mPpl : Int32) (mBts : Int32) (mUs : Int32) (mRa : Int32) (mSt : Int32) (mKi : Int32) (mWd : Int64) (mVal : Int32) (mLet : Int32) (mFin : Int32) (mNp : Int32) (mNb : Int32) (mOuts : Int32) (mWant : Int32) (mFnd : Int32) (mTape : Nat → Int32) (mNum : Nat → Int32) (mNam : Nat → Int32) (mFst : Nat → Int32) (mBnm : Nat → Int32) (mW : Nat → Int32) (mUn : Nat → Int32) (mSl : Nat → Int32) (mKp : Nat → Int32) (mnNum : Nat → Int32) (mnNam : Nat → Int32) (mnBo : Nat → Int32) (mnBn : Nat → Int32) (hB0 : Blk w k (cM D α k mTaped mErr mPpl mBts mUs mRa mSt mKi mWd mVal mLet mFin mNp mNb mOuts mWant mFnd mTape mNum mNam mFst mBnm mW mUn mSl mKp mnNum mnNam mnBo mnBn)) (hy0 : vp_in mPpl 21) (hy1 : 0 ≤ mW 0) (hy2 : 0 < mNum 0) (hy3 : vp_in mBts 7) : Met l yX12_lacks (ws_ yX12_lacks cX12_lacks 2 (some .int)) ({ frames := 5, cells := 0, slots := 0, locals := 108 }) (gPre D A [.ref (α (k))] w) (gR (some (.int (f_X12_lacks mPpl mBts mNum mW)))) 0 0 A := by
  refine g_met [(0, .ref (α (k)))] (plainFor_of_name (by decide)) (Nat.le_of_ble_eq_true rfl) rfl (fun pg en s mi ar below me co ls S hK hP hD hE hS hr hlk hnm hl => ?_)
  have hpn := vin_lt (show vp_in mPpl 21 by assumption)
  refine lv_aload_n S.1 S.2.1 dX12_lacks_0 rfl (lv_at hl 0 rfl) ?_
  refine g_aftR0 (st1 := [.int (b2i (f_X12_isOpen mW))]) (g_V (As := []) (rest := []) S mi_X12_isOpen qw1621 (c_X12_isOpen l D A w α (k) mTaped mErr mPpl mBts mUs mRa mSt mKi mWd mVal mLet mFin mNp mNb mOuts mWant mFnd mTape mNum mNam mFst mBnm mW mUn mSl mKp mnNum mnNam mnBo mnBn hB0) hK hP hD hE hS (hB0 0 _ rfl) rfl rfl rfl hl.1 (Nat.le_of_ble_eq_true rfl) rfl rfl ⟨(Nat.le_of_ble_eq_true rfl), (Nat.le_of_ble_eq_true rfl)⟩ ⟨(Nat.le_of_ble_eq_true rfl), (Nat.le_of_ble_eq_true rfl)⟩ dX12_lacks_1) hS rfl (fun locs hS => ?_)
  refine g_bifne (b := (f_X12_isOpen mW)) (tgt := 10) S dX12_lacks_4 (by decide) (fun (c1 : (f_X12_isOpen mW) = true) => ?_) (fun (c1 : (f_X12_isOpen mW) = false) => ?_)
  · refine lv_aload_n S.1 S.2.1 dX12_lacks_10 rfl (lv_at hl 0 rfl) ?_
    refine g_aftR0 (st1 := [.int (f_X12_needNow mPpl mBts mNum mW)]) (g_V (As := []) (rest := []) S mi_X12_needNow qw1692 (c_X12_needNow l D A w α (k) mTaped mErr mPpl mBts mUs mRa mSt mKi mWd mVal mLet mFin mNp mNb mOuts mWant mFnd mTape mNum mNam mFst mBnm mW mUn mSl mKp mnNum mnNam mnBo mnBn hB0 (by first | assumption | exact vin_d (by decide) | exact vp_in_nI (by omega) (by decide) | decide | omega) (by first | assumption | exact vin_d (by decide) | exact vp_in_nI (by omega) (by decide) | decide | omega) (by first | assumption | exact vin_d (by decide) | exact vp_in_nI (by omega) (by decide) | decide | omega)) hK hP hD hE hS (hB0 0 _ rfl) rfl rfl rfl hl.1 (Nat.le_of_ble_eq_true rfl) rfl rfl ⟨(Nat.le_of_ble_eq_true rfl), (Nat.le_of_ble_eq_true rfl)⟩ ⟨(Nat.le_of_ble_eq_true rfl), (Nat.le_of_ble_eq_true rfl)⟩ dX12_lacks_11) hS rfl (fun locs hS => ?_)
    refine lv_aload_n S.1 S.2.1 dX12_lacks_14 rfl (lv_at hl 0 rfl) ?_
    refine g_aftR0 (st1 := [.int (f_X12_turnout mPpl mW), .int (f_X12_needNow mPpl mBts mNum mW)]) (g_V (As := []) (rest := [.int (f_X12_needNow mPpl mBts mNum mW)]) S mi_X12_turnout qw1716 (c_X12_turnout l D A w α (k) mTaped mErr mPpl mBts mUs mRa mSt mKi mWd mVal mLet mFin mNp mNb mOuts mWant mFnd mTape mNum mNam mFst mBnm mW mUn mSl mKp mnNum mnNam mnBo mnBn hB0 (by first | assumption | exact vin_d (by decide) | exact vp_in_nI (by omega) (by decide) | decide | omega)) hK hP hD hE hS (hB0 0 _ rfl) rfl rfl rfl hl.1 (Nat.le_of_ble_eq_true rfl) rfl rfl ⟨(Nat.le_of_ble_eq_true rfl), (Nat.le_of_ble_eq_true rfl)⟩ ⟨(Nat.le_of_ble_eq_true rfl), (Nat.le_of_ble_eq_true rfl)⟩ dX12_lacks_15) hS rfl (fun locs hS => ?_)
    refine lv_isub S.1 S.2.1 dX12_lacks_18 ?_
    refine lv_istore_n (lv' := [(1, .int ((f_X12_needNow mPpl mBts mNum mW) - (f_X12_turnout mPpl mW))), (0, .ref (α (k)))]) S.1 S.2.1 dX12_lacks_19 rfl hl (by decide) rfl (fun ls hl => ?_)
    refine lv_iload_n S.1 S.2.1 dX12_lacks_20 rfl (lv_at hl 0 rfl) ?_
    refine lv_if_ge (tgt := 28) S.1 S.2.1 dX12_lacks_21 (by decide) (fun (c2 : 0 ≤ ((f_X12_needNow mPpl mBts mNum mW) - (f_X12_turnout mPpl mW))) => ?_) (fun (c2 : ¬ 0 ≤ ((f_X12_needNow mPpl mBts mNum mW) - (f_X12_turnout mPpl mW))) => ?_)
    · refine lv_iload_n S.1 S.2.1 dX12_lacks_28 rfl (lv_at hl 0 rfl) ?_
      have hf : (f_X12_lacks mPpl mBts mNum mW) = ((f_X12_needNow mPpl mBts mNum mW) - (f_X12_turnout mPpl mW)) := (cd_t c1).trans (if_pos c2)
      exact g_iretR S hr hlk hS (by rw [hf] <;> rfl) dX12_lacks_29
    · refine lv_iconst (v := 0) S.1 S.2.1 dX12_lacks_24 (by decide) ?_
      refine lv_goto (tgt := 29) S.1 S.2.1 dX12_lacks_25 (by decide) ?_
      have hf : (f_X12_lacks mPpl mBts mNum mW) = 0 := (cd_t c1).trans (if_neg c2)
      exact g_iretR S hr hlk hS (by rw [hf] <;> rfl) dX12_lacks_29
  · refine lv_bipush (v := (-5)) S.1 S.2.1 dX12_lacks_7 (by decide) ?_
    have hf : (f_X12_lacks mPpl mBts mNum mW) = (-5) := cd_f c1
    exact g_iretR S hr hlk hS (by rw [hf] <;> rfl) dX12_lacks_9
def f_X12_couldBeLaid (mW : Nat → Int32) (o : Int32) : Bool := (if (f_X12_of mW o 5) = 0 then (bif (f_X12_isAtSea mW o) then (if (f_X12_of mW o 5) = 1 then (bif (f_X12_isAtSea mW (f_X12_of mW o 6)) then false else true) else false) else true) else (if (f_X12_of mW o 5) = 1 then (bif (f_X12_isAtSea mW (f_X12_of mW o 6)) then false else true) else false))
set_option maxHeartbeats 4000000 in
set_option maxRecDepth 100000 in
theorem c_X12_couldBeLaid (l : Launch) (D : va_G) (A : Nat → Prop) (w : va_W) (α : Nat → Nat) (k : Nat) (mTaped : Int32) (mErr : Int32) (mPpl : Int32) (mBts : Int32) (mUs : Int32) (mRa : Int32) (mSt : Int32) (mKi : Int32) (mWd : Int64) (mVal : Int32) (mLet : Int32) (mFin : Int32) (mNp : Int32) (mNb : Int32) (mOuts : Int32) (mWant : Int32) (mFnd : Int32) (mTape : Nat → Int32) (mNum : Nat → Int32) (mNam : Nat → Int32) (mFst : Nat → Int32) (mBnm : Nat → Int32) (mW : Nat → Int32) (mUn : Nat → Int32) (mSl : Nat → Int32) (mKp : Nat → Int32) (mnNum : Nat → Int32) (mnNam : Nat → Int32) (mnBo : Nat → Int32) (mnBn : Nat → Int32) (o : Int32) (hB0 : Blk w k (cM D α k mTaped mErr mPpl mBts mUs mRa mSt mKi mWd mVal mLet mFin mNp mNb mOuts mWant mFnd mTape mNum mNam mFst mBnm mW mUn mSl mKp mnNum mnNam mnBo mnBn)) (hy0 : vp_in o 20) (hy1 : ∀ q, vp_in q 20 → f_X12_of mW q 5 = 1 → vp_in (f_X12_of mW q 6) 20) : Met l yX12_couldBeLaid (ws_ yX12_couldBeLaid cX12_couldBeLaid 3 (some .boolean)) ({ frames := 2, cells := 0, slots := 0, locals := 43 }) (gPre D A [.ref (α (k)), .int o] w) (gR (some (.int (b2i (f_X12_couldBeLaid mW o))))) 0 0 A := by
  refine g_met [(0, .ref (α (k))), (1, .int o)] (plainFor_of_name (by decide)) (Nat.le_of_ble_eq_true rfl) rfl (fun pg en s mi ar below me co ls S hK hP hD hE hS hr hlk hnm hl => ?_)
  refine lv_aload_n S.1 S.2.1 dX12_couldBeLaid_0 rfl (lv_at hl 0 rfl) ?_
  refine lv_iload_n S.1 S.2.1 dX12_couldBeLaid_1 rfl (lv_at hl 1 rfl) ?_
  refine lv_iconst (v := 5) S.1 S.2.1 dX12_couldBeLaid_2 (by decide) ?_
  refine g_aftR0 (st1 := [.int (f_X12_of mW o 5)]) (g_V (As := [.int o, .int 5]) (rest := []) S mi_X12_of qw1579 (c_X12_of l D A w α (k) mTaped mErr mPpl mBts mUs mRa mSt mKi mWd mVal mLet mFin mNp mNb mOuts mWant mFnd mTape mNum mNam mFst mBnm mW mUn mSl mKp mnNum mnNam mnBo mnBn o 5 hB0 (by first | assumption | exact vin_d (by decide) | exact vp_in_nI (by omega) (by decide) | decide | omega) (by first | assumption | exact vin_d (by decide) | exact vp_in_nI (by omega) (by decide) | decide | omega)) hK hP hD hE hS (hB0 0 _ rfl) rfl rfl rfl hl.1 (Nat.le_of_ble_eq_true rfl) rfl rfl ⟨(Nat.le_of_ble_eq_true rfl), (Nat.le_of_ble_eq_true rfl)⟩ ⟨(Nat.le_of_ble_eq_true rfl), (Nat.le_of_ble_eq_true rfl)⟩ dX12_couldBeLaid_3) hS rfl (fun locs hS => ?_)
  refine lv_istore_n (lv' := [(2, .int (f_X12_of mW o 5)), (0, .ref (α (k))), (1, .int o)]) S.1 S.2.1 dX12_couldBeLaid_6 rfl hl (by decide) rfl (fun ls hl => ?_)
  refine lv_iload_n S.1 S.2.1 dX12_couldBeLaid_7 rfl (lv_at hl 0 rfl) ?_
  refine lv_if_ne (tgt := 19) S.1 S.2.1 dX12_couldBeLaid_8 (by decide) (fun (c1 : ¬ (f_X12_of mW o 5) = 0) => ?_) (fun (c1 : (f_X12_of mW o 5) = 0) => ?_)
  · refine lv_iload_n S.1 S.2.1 dX12_couldBeLaid_19 rfl (lv_at hl 0 rfl) ?_
    refine lv_iconst (v := 1) S.1 S.2.1 dX12_couldBeLaid_20 (by decide) ?_
    refine lv_icmp_ne (tgt := 42) S.1 S.2.1 dX12_couldBeLaid_21 (by decide) (fun (c2 : ¬ (f_X12_of mW o 5) = 1) => ?_) (fun (c2 : (f_X12_of mW o 5) = 1) => ?_)
    · refine lv_iconst (v := 0) S.1 S.2.1 dX12_couldBeLaid_42 (by decide) ?_
      have hf : (f_X12_couldBeLaid mW o) = false := (if_neg c1).trans (if_neg c2)
      exact g_zretR S hr hlk hS rfl (by rw [hf] <;> rfl) dX12_couldBeLaid_43
    · refine lv_aload_n S.1 S.2.1 dX12_couldBeLaid_24 rfl (lv_at hl 1 rfl) ?_
      refine lv_aload_n S.1 S.2.1 dX12_couldBeLaid_25 rfl (lv_at hl 1 rfl) ?_
      refine lv_iload_n S.1 S.2.1 dX12_couldBeLaid_26 rfl (lv_at hl 2 rfl) ?_
      refine lv_bipush (v := 6) S.1 S.2.1 dX12_couldBeLaid_27 (by decide) ?_
      refine g_aftR0 (st1 := [.int (f_X12_of mW o 6), .ref (α (k))]) (g_V (As := [.int o, .int 6]) (rest := [.ref (α (k))]) S mi_X12_of qw1579 (c_X12_of l D A w α (k) mTaped mErr mPpl mBts mUs mRa mSt mKi mWd mVal mLet mFin mNp mNb mOuts mWant mFnd mTape mNum mNam mFst mBnm mW mUn mSl mKp mnNum mnNam mnBo mnBn o 6 hB0 (by first | assumption | exact vin_d (by decide) | exact vp_in_nI (by omega) (by decide) | decide | omega) (by first | assumption | exact vin_d (by decide) | exact vp_in_nI (by omega) (by decide) | decide | omega)) hK hP hD hE hS (hB0 0 _ rfl) rfl rfl rfl hl.1 (Nat.le_of_ble_eq_true rfl) rfl rfl ⟨(Nat.le_of_ble_eq_true rfl), (Nat.le_of_ble_eq_true rfl)⟩ ⟨(Nat.le_of_ble_eq_true rfl), (Nat.le_of_ble_eq_true rfl)⟩ dX12_couldBeLaid_29) hS rfl (fun locs hS => ?_)
      refine g_aftR0 (st1 := [.int (b2i (f_X12_isAtSea mW (f_X12_of mW o 6)))]) (g_V (As := [.int (f_X12_of mW o 6)]) (rest := []) S mi_X12_isAtSea qw1583 (c_X12_isAtSea l D A w α (k) mTaped mErr mPpl mBts mUs mRa mSt mKi mWd mVal mLet mFin mNp mNb mOuts mWant mFnd mTape mNum mNam mFst mBnm mW mUn mSl mKp mnNum mnNam mnBo mnBn (f_X12_of mW o 6) hB0 (by first | exact hy0 | exact hy1 _ hy0 (by assumption))) hK hP hD hE hS (hB0 0 _ rfl) rfl rfl rfl hl.1 (Nat.le_of_ble_eq_true rfl) rfl rfl ⟨(Nat.le_of_ble_eq_true rfl), (Nat.le_of_ble_eq_true rfl)⟩ ⟨(Nat.le_of_ble_eq_true rfl), (Nat.le_of_ble_eq_true rfl)⟩ dX12_couldBeLaid_32) hS rfl (fun locs hS => ?_)
      refine g_bifne (b := (f_X12_isAtSea mW (f_X12_of mW o 6))) (tgt := 42) S dX12_couldBeLaid_35 (by decide) (fun (c3 : (f_X12_isAtSea mW (f_X12_of mW o 6)) = true) => ?_) (fun (c3 : (f_X12_isAtSea mW (f_X12_of mW o 6)) = false) => ?_)
      · refine lv_iconst (v := 0) S.1 S.2.1 dX12_couldBeLaid_42 (by decide) ?_
        have hf : (f_X12_couldBeLaid mW o) = false := (if_neg c1).trans ((if_pos c2).trans (cd_t c3))
        exact g_zretR S hr hlk hS rfl (by rw [hf] <;> rfl) dX12_couldBeLaid_43
      · refine lv_iconst (v := 1) S.1 S.2.1 dX12_couldBeLaid_38 (by decide) ?_
        refine lv_goto (tgt := 43) S.1 S.2.1 dX12_couldBeLaid_39 (by decide) ?_
        have hf : (f_X12_couldBeLaid mW o) = true := (if_neg c1).trans ((if_pos c2).trans (cd_f c3))
        exact g_zretR S hr hlk hS rfl (by rw [hf] <;> rfl) dX12_couldBeLaid_43
  · refine lv_aload_n S.1 S.2.1 dX12_couldBeLaid_11 rfl (lv_at hl 1 rfl) ?_
    refine lv_iload_n S.1 S.2.1 dX12_couldBeLaid_12 rfl (lv_at hl 2 rfl) ?_
    refine g_aftR0 (st1 := [.int (b2i (f_X12_isAtSea mW o))]) (g_V (As := [.int o]) (rest := []) S mi_X12_isAtSea qw1583 (c_X12_isAtSea l D A w α (k) mTaped mErr mPpl mBts mUs mRa mSt mKi mWd mVal mLet mFin mNp mNb mOuts mWant mFnd mTape mNum mNam mFst mBnm mW mUn mSl mKp mnNum mnNam mnBo mnBn o hB0 (by first | exact hy0 | exact hy1 _ hy0 (by assumption))) hK hP hD hE hS (hB0 0 _ rfl) rfl rfl rfl hl.1 (Nat.le_of_ble_eq_true rfl) rfl rfl ⟨(Nat.le_of_ble_eq_true rfl), (Nat.le_of_ble_eq_true rfl)⟩ ⟨(Nat.le_of_ble_eq_true rfl), (Nat.le_of_ble_eq_true rfl)⟩ dX12_couldBeLaid_13) hS rfl (fun locs hS => ?_)
    refine g_bifeq (b := (f_X12_isAtSea mW o)) (tgt := 38) S dX12_couldBeLaid_16 (by decide) (fun (c4 : (f_X12_isAtSea mW o) = false) => ?_) (fun (c4 : (f_X12_isAtSea mW o) = true) => ?_)
    · refine lv_iconst (v := 1) S.1 S.2.1 dX12_couldBeLaid_38 (by decide) ?_
      refine lv_goto (tgt := 43) S.1 S.2.1 dX12_couldBeLaid_39 (by decide) ?_
      have hf : (f_X12_couldBeLaid mW o) = true := (if_pos c1).trans (cd_f c4)
      exact g_zretR S hr hlk hS rfl (by rw [hf] <;> rfl) dX12_couldBeLaid_43
    · refine lv_iload_n S.1 S.2.1 dX12_couldBeLaid_19 rfl (lv_at hl 0 rfl) ?_
      refine lv_iconst (v := 1) S.1 S.2.1 dX12_couldBeLaid_20 (by decide) ?_
      refine lv_icmp_ne (tgt := 42) S.1 S.2.1 dX12_couldBeLaid_21 (by decide) (fun (c5 : ¬ (f_X12_of mW o 5) = 1) => ?_) (fun (c5 : (f_X12_of mW o 5) = 1) => ?_)
      · refine lv_iconst (v := 0) S.1 S.2.1 dX12_couldBeLaid_42 (by decide) ?_
        have hf : (f_X12_couldBeLaid mW o) = false := (if_pos c1).trans ((cd_t c4).trans (if_neg c5))
        exact g_zretR S hr hlk hS rfl (by rw [hf] <;> rfl) dX12_couldBeLaid_43
      · refine lv_aload_n S.1 S.2.1 dX12_couldBeLaid_24 rfl (lv_at hl 1 rfl) ?_
        refine lv_aload_n S.1 S.2.1 dX12_couldBeLaid_25 rfl (lv_at hl 1 rfl) ?_
        refine lv_iload_n S.1 S.2.1 dX12_couldBeLaid_26 rfl (lv_at hl 2 rfl) ?_
        refine lv_bipush (v := 6) S.1 S.2.1 dX12_couldBeLaid_27 (by decide) ?_
        refine g_aftR0 (st1 := [.int (f_X12_of mW o 6), .ref (α (k))]) (g_V (As := [.int o, .int 6]) (rest := [.ref (α (k))]) S mi_X12_of qw1579 (c_X12_of l D A w α (k) mTaped mErr mPpl mBts mUs mRa mSt mKi mWd mVal mLet mFin mNp mNb mOuts mWant mFnd mTape mNum mNam mFst mBnm mW mUn mSl mKp mnNum mnNam mnBo mnBn o 6 hB0 (by first | assumption | exact vin_d (by decide) | exact vp_in_nI (by omega) (by decide) | decide | omega) (by first | assumption | exact vin_d (by decide) | exact vp_in_nI (by omega) (by decide) | decide | omega)) hK hP hD hE hS (hB0 0 _ rfl) rfl rfl rfl hl.1 (Nat.le_of_ble_eq_true rfl) rfl rfl ⟨(Nat.le_of_ble_eq_true rfl), (Nat.le_of_ble_eq_true rfl)⟩ ⟨(Nat.le_of_ble_eq_true rfl), (Nat.le_of_ble_eq_true rfl)⟩ dX12_couldBeLaid_29) hS rfl (fun locs hS => ?_)
        refine g_aftR0 (st1 := [.int (b2i (f_X12_isAtSea mW (f_X12_of mW o 6)))]) (g_V (As := [.int (f_X12_of mW o 6)]) (rest := []) S mi_X12_isAtSea qw1583 (c_X12_isAtSea l D A w α (k) mTaped mErr mPpl mBts mUs mRa mSt mKi mWd mVal mLet mFin mNp mNb mOuts mWant mFnd mTape mNum mNam mFst mBnm mW mUn mSl mKp mnNum mnNam mnBo mnBn (f_X12_of mW o 6) hB0 (by first | exact hy0 | exact hy1 _ hy0 (by assumption))) hK hP hD hE hS (hB0 0 _ rfl) rfl rfl rfl hl.1 (Nat.le_of_ble_eq_true rfl) rfl rfl ⟨(Nat.le_of_ble_eq_true rfl), (Nat.le_of_ble_eq_true rfl)⟩ ⟨(Nat.le_of_ble_eq_true rfl), (Nat.le_of_ble_eq_true rfl)⟩ dX12_couldBeLaid_32) hS rfl (fun locs hS => ?_)
        refine g_bifne (b := (f_X12_isAtSea mW (f_X12_of mW o 6))) (tgt := 42) S dX12_couldBeLaid_35 (by decide) (fun (c6 : (f_X12_isAtSea mW (f_X12_of mW o 6)) = true) => ?_) (fun (c6 : (f_X12_isAtSea mW (f_X12_of mW o 6)) = false) => ?_)
        · refine lv_iconst (v := 0) S.1 S.2.1 dX12_couldBeLaid_42 (by decide) ?_
          have hf : (f_X12_couldBeLaid mW o) = false := (if_pos c1).trans ((cd_t c4).trans ((if_pos c5).trans (cd_t c6)))
          exact g_zretR S hr hlk hS rfl (by rw [hf] <;> rfl) dX12_couldBeLaid_43
        · refine lv_iconst (v := 1) S.1 S.2.1 dX12_couldBeLaid_38 (by decide) ?_
          refine lv_goto (tgt := 43) S.1 S.2.1 dX12_couldBeLaid_39 (by decide) ?_
          have hf : (f_X12_couldBeLaid mW o) = true := (if_pos c1).trans ((cd_t c4).trans ((if_pos c5).trans (cd_f c6)))
          exact g_zretR S hr hlk hS rfl (by rw [hf] <;> rfl) dX12_couldBeLaid_43
def f_X12_errorPosition (mErr : Int32) : Int32 := mErr
set_option maxHeartbeats 4000000 in
set_option maxRecDepth 100000 in
theorem c_X12_errorPosition (l : Launch) (D : va_G) (A : Nat → Prop) (w : va_W) (α : Nat → Nat) (k : Nat) (mTaped : Int32) (mErr : Int32) (mPpl : Int32) (mBts : Int32) (mUs : Int32) (mRa : Int32) (mSt : Int32) (mKi : Int32) (mWd : Int64) (mVal : Int32) (mLet : Int32) (mFin : Int32) (mNp : Int32) (mNb : Int32) (mOuts : Int32) (mWant : Int32) (mFnd : Int32) (mTape : Nat → Int32) (mNum : Nat → Int32) (mNam : Nat → Int32) (mFst : Nat → Int32) (mBnm : Nat → Int32) (mW : Nat → Int32) (mUn : Nat → Int32) (mSl : Nat → Int32) (mKp : Nat → Int32) (mnNum : Nat → Int32) (mnNam : Nat → Int32) (mnBo : Nat → Int32) (mnBn : Nat → Int32) (hB0 : Blk w k (cM D α k mTaped mErr mPpl mBts mUs mRa mSt mKi mWd mVal mLet mFin mNp mNb mOuts mWant mFnd mTape mNum mNam mFst mBnm mW mUn mSl mKp mnNum mnNam mnBo mnBn)) : Met l yX12_errorPosition (ws_ yX12_errorPosition cX12_errorPosition 1 (some .int)) ({ frames := 0, cells := 0, slots := 0, locals := 0 }) (gPre D A [.ref (α (k))] w) (gR (some (.int (f_X12_errorPosition mErr)))) 0 0 A := by
  refine g_met [(0, .ref (α (k)))] (plainFor_of_name (by decide)) (Nat.le_of_ble_eq_true rfl) rfl (fun pg en s mi ar below me co ls S hK hP hD hE hS hr hlk hnm hl => ?_)
  refine lv_aload_n S.1 S.2.1 dX12_errorPosition_0 rfl (lv_at hl 0 rfl) ?_
  refine g_get (v := .int mErr) S hK hP (hB0 0 _ rfl) rfl inX12 2 (by decide) qw1376 rfl dX12_errorPosition_1 ?_
  have hf : (f_X12_errorPosition mErr) = mErr := rfl
  exact g_iretR S hr hlk hS (by rw [hf] <;> rfl) dX12_errorPosition_4
def f_X12_tapeLength (mTaped : Int32) : Int32 := mTaped
set_option maxHeartbeats 4000000 in
set_option maxRecDepth 100000 in
theorem c_X12_tapeLength (l : Launch) (D : va_G) (A : Nat → Prop) (w : va_W) (α : Nat → Nat) (k : Nat) (mTaped : Int32) (mErr : Int32) (mPpl : Int32) (mBts : Int32) (mUs : Int32) (mRa : Int32) (mSt : Int32) (mKi : Int32) (mWd : Int64) (mVal : Int32) (mLet : Int32) (mFin : Int32) (mNp : Int32) (mNb : Int32) (mOuts : Int32) (mWant : Int32) (mFnd : Int32) (mTape : Nat → Int32) (mNum : Nat → Int32) (mNam : Nat → Int32) (mFst : Nat → Int32) (mBnm : Nat → Int32) (mW : Nat → Int32) (mUn : Nat → Int32) (mSl : Nat → Int32) (mKp : Nat → Int32) (mnNum : Nat → Int32) (mnNam : Nat → Int32) (mnBo : Nat → Int32) (mnBn : Nat → Int32) (hB0 : Blk w k (cM D α k mTaped mErr mPpl mBts mUs mRa mSt mKi mWd mVal mLet mFin mNp mNb mOuts mWant mFnd mTape mNum mNam mFst mBnm mW mUn mSl mKp mnNum mnNam mnBo mnBn)) : Met l yX12_tapeLength (ws_ yX12_tapeLength cX12_tapeLength 1 (some .int)) ({ frames := 0, cells := 0, slots := 0, locals := 0 }) (gPre D A [.ref (α (k))] w) (gR (some (.int (f_X12_tapeLength mTaped)))) 0 0 A := by
  refine g_met [(0, .ref (α (k)))] (plainFor_of_name (by decide)) (Nat.le_of_ble_eq_true rfl) rfl (fun pg en s mi ar below me co ls S hK hP hD hE hS hr hlk hnm hl => ?_)
  refine lv_aload_n S.1 S.2.1 dX12_tapeLength_0 rfl (lv_at hl 0 rfl) ?_
  refine g_get (v := .int mTaped) S hK hP (hB0 0 _ rfl) rfl inX12 1 (by decide) qw1375 rfl dX12_tapeLength_1 ?_
  have hf : (f_X12_tapeLength mTaped) = mTaped := rfl
  exact g_iretR S hr hlk hS (by rw [hf] <;> rfl) dX12_tapeLength_4
def f_X12_truncate (mTaped : Int32) (x : Int32) : Int32 × Int32 := (bif (f_X12_in x.toInt64 0 mTaped.toInt64) then ((mTaped - x), (mTaped - x)) else ((-1), mTaped))
set_option maxHeartbeats 4000000 in
set_option maxRecDepth 100000 in
theorem c_X12_truncate (l : Launch) (D : va_G) (A : Nat → Prop) (w : va_W) (α : Nat → Nat) (k : Nat) (mTaped : Int32) (mErr : Int32) (mPpl : Int32) (mBts : Int32) (mUs : Int32) (mRa : Int32) (mSt : Int32) (mKi : Int32) (mWd : Int64) (mVal : Int32) (mLet : Int32) (mFin : Int32) (mNp : Int32) (mNb : Int32) (mOuts : Int32) (mWant : Int32) (mFnd : Int32) (mTape : Nat → Int32) (mNum : Nat → Int32) (mNam : Nat → Int32) (mFst : Nat → Int32) (mBnm : Nat → Int32) (mW : Nat → Int32) (mUn : Nat → Int32) (mSl : Nat → Int32) (mKp : Nat → Int32) (mnNum : Nat → Int32) (mnNam : Nat → Int32) (mnBo : Nat → Int32) (mnBn : Nat → Int32) (x : Int32) (hB0 : Blk w k (cM D α k mTaped mErr mPpl mBts mUs mRa mSt mKi mWd mVal mLet mFin mNp mNb mOuts mWant mFnd mTape mNum mNam mFst mBnm mW mUn mSl mKp mnNum mnNam mnBo mnBn)) : Met l yX12_truncate (ws_ yX12_truncate cX12_truncate 2 (some .int)) ({ frames := 1, cells := 0, slots := 0, locals := 25 }) (gPre D A [.ref (α (k)), .int x] w) (gQ D A (some (.int (f_X12_truncate mTaped x).1)) (fun w1 => Blk w1 k (cM D α k ((f_X12_truncate mTaped x).2) mErr mPpl mBts mUs mRa mSt mKi mWd mVal mLet mFin mNp mNb mOuts mWant mFnd mTape mNum mNam mFst mBnm mW mUn mSl mKp mnNum mnNam mnBo mnBn) ∧ Same w w1 k 14)) 0 0 A := by
  refine g_met [(0, .ref (α (k))), (1, .int x)] (plainFor_of_name (by decide)) (Nat.le_of_ble_eq_true rfl) rfl (fun pg en s mi ar below me co ls S hK hP hD hE hS hr hlk hnm hl => ?_)
  have hF : Same w w k 14 := Same.rf
  refine lv_iload_n S.1 S.2.1 dX12_truncate_0 rfl (lv_at hl 1 rfl) ?_
  refine lv_i2l (v := x.toInt64) S.1 S.2.1 dX12_truncate_1 rfl ?_
  refine lv_lconst (v := 0) S.1 S.2.1 dX12_truncate_2 (by decide) ?_
  refine lv_aload_n S.1 S.2.1 dX12_truncate_3 rfl (lv_at hl 0 rfl) ?_
  refine g_get (v := .int mTaped) S hK hP (hB0 0 _ rfl) rfl inX12 1 (by decide) qw1375 rfl dX12_truncate_4 ?_
  refine lv_i2l (v := mTaped.toInt64) S.1 S.2.1 dX12_truncate_7 rfl ?_
  refine g_aftR0 (st1 := [.int (b2i (f_X12_in x.toInt64 0 mTaped.toInt64))]) (g_St (As := [.long x.toInt64, .long 0, .long mTaped.toInt64]) (rest := []) S ms_X12_in qw1477 (c_X12_in l D A w α x.toInt64 0 mTaped.toInt64) hK hP hD hE hS rfl rfl hl.1 (Nat.le_of_ble_eq_true rfl) rfl rfl ⟨(Nat.le_of_ble_eq_true rfl), (Nat.le_of_ble_eq_true rfl)⟩ ⟨(Nat.le_of_ble_eq_true rfl), (Nat.le_of_ble_eq_true rfl)⟩ dX12_truncate_8) hS rfl (fun locs hS => ?_)
  refine g_bifne (b := (f_X12_in x.toInt64 0 mTaped.toInt64)) (tgt := 16) S dX12_truncate_11 (by decide) (fun (c1 : (f_X12_in x.toInt64 0 mTaped.toInt64) = true) => ?_) (fun (c1 : (f_X12_in x.toInt64 0 mTaped.toInt64) = false) => ?_)
  · refine lv_aload_n S.1 S.2.1 dX12_truncate_16 rfl (lv_at hl 0 rfl) ?_
    refine lv_dup S.1 S.2.1 dX12_truncate_17 rfl ?_
    refine g_get (v := .int mTaped) S hK hP (hB0 0 _ rfl) rfl inX12 1 (by decide) qw1375 rfl dX12_truncate_18 ?_
    refine lv_iload_n S.1 S.2.1 dX12_truncate_21 rfl (lv_at hl 1 rfl) ?_
    refine lv_isub S.1 S.2.1 dX12_truncate_22 ?_
    refine g_put S hK hP hD hS (hB0 0 _ rfl) rfl inX12 tyX12_ok nmX12 1 (by decide) qw1375 rfl rfl rfl (Nat.le_of_ble_eq_true rfl) dX12_truncate_23 (fun w1 H locs hw hP hD hS => ?_)
    have hF := Same.set hF 0 hw (by decide)
    have hB0 : Blk w1 k (cM D α k (mTaped - x) mErr mPpl mBts mUs mRa mSt mKi mWd mVal mLet mFin mNp mNb mOuts mWant mFnd mTape mNum mNam mFst mBnm mW mUn mSl mKp mnNum mnNam mnBo mnBn) := hB0.set 0 hw (Nat.le_of_ble_eq_true rfl) rfl
    refine lv_aload_n S.1 S.2.1 dX12_truncate_26 rfl (lv_at hl 0 rfl) ?_
    refine g_get (v := .int (mTaped - x)) S hK hP (hB0 0 _ rfl) rfl inX12 1 (by decide) qw1375 rfl dX12_truncate_27 ?_
    have hf : (f_X12_truncate mTaped x) = ((mTaped - x), (mTaped - x)) := cd_t c1
    exact g_iret S hr hlk hP hD hS (by rw [hf] <;> rfl) (⟨by rw [hf]; exact hB0, hF⟩) dX12_truncate_30
  · refine lv_iconst (v := (-1)) S.1 S.2.1 dX12_truncate_14 (by decide) ?_
    have hf : (f_X12_truncate mTaped x) = ((-1), mTaped) := cd_f c1
    exact g_iret S hr hlk hP hD hS (by rw [hf] <;> rfl) (⟨by rw [hf]; exact hB0, hF⟩) dX12_truncate_15
