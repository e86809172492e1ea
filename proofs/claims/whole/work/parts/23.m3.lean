
theorem sets_ne {mW : Nat → Int32} {p x v : Int32} {j : Nat} (hp : vp_in p 20) (hx : vp_in x 11) (h : j < 9 ∨ 229 ≤ j) : f_X12_sets mW p x v j = mW j := by
  unfold f_X12_sets
  rw [of_nat hp hx]
  obtain ⟨-, h1⟩ := vin_nI hp
  obtain ⟨-, h2⟩ := vin_nI hx
  exact upd_ne (by omega)
theorem setsB_ne {mW : Nat → Int32} {b x v : Int32} {j : Nat} (hb : vp_in b 6) (hx : vp_in x 3) (h : j < 229 ∨ 247 ≤ j) : f_X12_setsBoat mW b x v j = mW j := by
  unfold f_X12_setsBoat
  rw [ofB_nat hb hx]
  obtain ⟨-, h1⟩ := vin_nI hb
  obtain ⟨-, h2⟩ := vin_nI hx
  exact upd_ne (by omega)
def L_X12_tells_15 (mW : Nat → Int32) : Nat → (Nat → Int32) := iter_ (fun n sn => (upd sn ((279 + (nI (n + 4))) - 4).toNatClampNeg (sn (279 + (nI (n + 4))).toNatClampNeg))) mW
def f_X12_tells (mW : Nat → Int32) (kd : Int32) (one : Int32) (two : Int32) : (Nat → Int32) := (if (mW 8) = 30 then (upd (upd (upd (upd (upd (upd (L_X12_tells_15 mW 116) 8 (((L_X12_tells_15 mW 116) 8) - 1)) (279 + (4 * ((upd (L_X12_tells_15 mW 116) 8 (((L_X12_tells_15 mW 116) 8) - 1)) 8))).toNatClampNeg ((upd (L_X12_tells_15 mW 116) 8 (((L_X12_tells_15 mW 116) 8) - 1)) 0)) ((279 + (4 * ((upd (L_X12_tells_15 mW 116) 8 (((L_X12_tells_15 mW 116) 8) - 1)) 8))) + 1).toNatClampNeg kd) ((279 + (4 * ((upd (L_X12_tells_15 mW 116) 8 (((L_X12_tells_15 mW 116) 8) - 1)) 8))) + 2).toNatClampNeg one) ((279 + (4 * ((upd (L_X12_tells_15 mW 116) 8 (((L_X12_tells_15 mW 116) 8) - 1)) 8))) + 3).toNatClampNeg two) 8 (((upd (upd (upd (upd (upd (L_X12_tells_15 mW 116) 8 (((L_X12_tells_15 mW 116) 8) - 1)) (279 + (4 * ((upd (L_X12_tells_15 mW 116) 8 (((L_X12_tells_15 mW 116) 8) - 1)) 8))).toNatClampNeg ((upd (L_X12_tells_15 mW 116) 8 (((L_X12_tells_15 mW 116) 8) - 1)) 0)) ((279 + (4 * ((upd (L_X12_tells_15 mW 116) 8 (((L_X12_tells_15 mW 116) 8) - 1)) 8))) + 1).toNatClampNeg kd) ((279 + (4 * ((upd (L_X12_tells_15 mW 116) 8 (((L_X12_tells_15 mW 116) 8) - 1)) 8))) + 2).toNatClampNeg one) ((279 + (4 * ((upd (L_X12_tells_15 mW 116) 8 (((L_X12_tells_15 mW 116) 8) - 1)) 8))) + 3).toNatClampNeg two) 8) + 1)) else (upd (upd (upd (upd (upd mW (279 + (4 * (mW 8))).toNatClampNeg (mW 0)) ((279 + (4 * (mW 8))) + 1).toNatClampNeg kd) ((279 + (4 * (mW 8))) + 2).toNatClampNeg one) ((279 + (4 * (mW 8))) + 3).toNatClampNeg two) 8 (((upd (upd (upd (upd mW (279 + (4 * (mW 8))).toNatClampNeg (mW 0)) ((279 + (4 * (mW 8))) + 1).toNatClampNeg kd) ((279 + (4 * (mW 8))) + 2).toNatClampNeg one) ((279 + (4 * (mW 8))) + 3).toNatClampNeg two) 8) + 1)))
theorem tells_L {mW : Nat → Int32} : ∀ n, n ≤ 116 → ∀ j, L_X12_tells_15 mW n j = if 279 ≤ j ∧ j < 279 + n then mW (j + 4) else mW j := by
  intro n hn
  refine iter_inv (σ := Nat → Int32) (I := fun n s => ∀ j, s j = if 279 ≤ j ∧ j < 279 + n then mW (j + 4) else mW j) ?_ ?_ n hn
  · intro j
    rw [if_neg (by omega)]
  · intro n s hn ih j
    obtain ⟨e1, e2, -, -⟩ := tl_ix hn
    rw [e1, e2, ih (283 + n), if_neg (by omega)]
    by_cases h : j = 279 + n
    · subst h
      rw [upd_eq, if_pos (by omega)]
      congr 1
      omega
    · rw [upd_ne h, ih j]
      by_cases h2 : 279 ≤ j ∧ j < 279 + n
      · rw [if_pos h2, if_pos (by omega)]
      · rw [if_neg h2, if_neg (by omega)]
theorem tells_8 {mW : Nat → Int32} : L_X12_tells_15 mW 116 8 = mW 8 := by rw [tells_L 116 (Nat.le_refl _), if_neg (by omega)]
theorem tells_c1 {mW : Nat → Int32} (h : mW 8 = 30) : upd (L_X12_tells_15 mW 116) 8 (L_X12_tells_15 mW 116 8 - 1) 8 = 29 := by
  rw [upd_eq, tells_8, h]; rfl
theorem tells_c2 {mW : Nat → Int32} (h0 : vp_in (mW 8) 31) (h : ¬ mW 8 = 30) : vp_in (mW 8) 30 := by
  obtain ⟨e, h1⟩ := vin_nI h0
  rw [e] at h ⊢
  refine vp_in_nI ?_ (by decide)
  have : (mW 8).toNatClampNeg ≠ 30 := fun q => h (by rw [q]; rfl)
  omega
set_option maxHeartbeats 4000000 in
set_option maxRecDepth 100000 in
theorem c_X12_tells (l : Launch) (D : va_G) (A : Nat → Prop) (w : va_W) (α : Nat → Nat) (k : Nat) (mTaped : Int32) (mErr : Int32) (mPpl : Int32) (mBts : Int32) (mUs : Int32) (mRa : Int32) (mSt : Int32) (mKi : Int32) (mWd : Int64) (mVal : Int32) (mLet : Int32) (mFin : Int32) (mNp : Int32) (mNb : Int32) (mOuts : Int32) (mWant : Int32) (mFnd : Int32) (mTape : Nat → Int32) (mNum : Nat → Int32) (mNam : Nat → Int32) (mFst : Nat → Int32) (mBnm : Nat → Int32) (mW : Nat → Int32) (mUn : Nat → Int32) (mSl : Nat → Int32) (mKp : Nat → Int32) (mnNum : Nat → Int32) (mnNam : Nat → Int32) (mnBo : Nat → Int32) (mnBn : Nat → Int32) (kd : Int32) (one : Int32) (two : Int32) (hB0 : Blk w k (cM D α k mTaped mErr mPpl mBts mUs mRa mSt mKi mWd mVal mLet mFin mNp mNb mOuts mWant mFnd mTape mNum mNam mFst mBnm mW mUn mSl mKp mnNum mnNam mnBo mnBn)) (hy0 : vp_in (mW 8) 31) : Met l yX12_tells (ws_ yX12_tells cX12_tells 5 none) ({ frames := 0, cells := 0, slots := 0, locals := 0 }) (gPre D A [.ref (α (k)), .int kd, .int one, .int two] w) (gQ D A none (fun w1 => Blk w1 k (cM D α k mTaped mErr mPpl mBts mUs mRa mSt mKi mWd mVal mLet mFin mNp mNb mOuts mWant mFnd mTape mNum mNam mFst mBnm (f_X12_tells mW kd one two) mUn mSl mKp mnNum mnNam mnBo mnBn) ∧ Same w w1 k 14)) 0 0 A := by
  refine g_met [(0, .ref (α (k))), (1, .int kd), (2, .int one), (3, .int two)] (plainFor_of_name (by decide)) (Nat.le_of_ble_eq_true rfl) rfl (fun pg en s mi ar below me co ls S hK hP hD hE hS hr hlk hnm hl => ?_)
  have hF : Same w w k 14 := Same.rf
  refine lv_aload_n S.1 S.2.1 dX12_tells_0 rfl (lv_at hl 0 rfl) ?_
  refine g_get (v := .ref (α (k + 6))) S hK hP (hB0 0 _ rfl) rfl inX12 9 (by decide) qw1383 rfl dX12_tells_1 ?_
  refine lv_bipush (v := 8) S.1 S.2.1 dX12_tells_4 (by decide) ?_
  refine g_iald S hK hP (hB0 6 _ rfl) (by first | assumption | exact vin_d (by decide) | exact vp_in_nI (by omega) (by decide) | decide) dX12_tells_6 ?_
  refine lv_bipush (v := 30) S.1 S.2.1 dX12_tells_7 (by decide) ?_
  refine lv_icmp_ne (tgt := 63) S.1 S.2.1 dX12_tells_9 (by decide) (fun (c1 : ¬ (mW 8) = 30) => ?_) (fun (c1 : (mW 8) = 30) => ?_)
  · refine lv_sipush (v := 279) S.1 S.2.1 dX12_tells_63 (by decide) ?_
    refine lv_iconst (v := 4) S.1 S.2.1 dX12_tells_66 (by decide) ?_
    refine lv_aload_n S.1 S.2.1 dX12_tells_67 rfl (lv_at hl 0 rfl) ?_
    refine g_get (v := .ref (α (k + 6))) S hK hP (hB0 0 _ rfl) rfl inX12 9 (by decide) qw1383 rfl dX12_tells_68 ?_
    refine lv_bipush (v := 8) S.1 S.2.1 dX12_tells_71 (by decide) ?_
    refine g_iald S hK hP (hB0 6 _ rfl) (by first | assumption | exact vin_d (by decide) | exact vp_in_nI (by omega) (by decide) | decide) dX12_tells_73 ?_
    refine lv_imul S.1 S.2.1 dX12_tells_74 ?_
    refine lv_iadd S.1 S.2.1 dX12_tells_75 ?_
    refine lv_istore (lv' := [(4, .int (279 + (4 * (mW 8)))), (0, .ref (α (k))), (1, .int kd), (2, .int one), (3, .int two)]) S.1 S.2.1 dX12_tells_76 hl (by decide) rfl (fun ls hl => ?_)
    refine lv_aload_n S.1 S.2.1 dX12_tells_78 rfl (lv_at hl 1 rfl) ?_
    refine g_get (v := .ref (α (k + 6))) S hK hP (hB0 0 _ rfl) rfl inX12 9 (by decide) qw1383 rfl dX12_tells_79 ?_
    refine lv_iload S.1 S.2.1 dX12_tells_82 (lv_at hl 0 rfl) ?_
    refine lv_aload_n S.1 S.2.1 dX12_tells_84 rfl (lv_at hl 1 rfl) ?_
    refine g_get (v := .ref (α (k + 6))) S hK hP (hB0 0 _ rfl) rfl inX12 9 (by decide) qw1383 rfl dX12_tells_85 ?_
    refine lv_iconst (v := 0) S.1 S.2.1 dX12_tells_88 (by decide) ?_
    refine g_iald S hK hP (hB0 6 _ rfl) (by first | assumption | exact vin_d (by decide) | exact vp_in_nI (by omega) (by decide) | decide) dX12_tells_89 ?_
    refine g_iast S hK hP hD hS (hB0 6 _ rfl) (by first | exact (tl_at0 (by rw [tells_c1 (by assumption)]; exact vin_d (by decide))).1 | exact (tl_at0 (tells_c2 hy0 (by assumption))).1) dX12_tells_90 (fun w1 H locs hw hP hD hS => ?_)
    have hF := Same.set hF 6 hw (by decide)
    have hB0 : Blk w1 k (cM D α k mTaped mErr mPpl mBts mUs mRa mSt mKi mWd mVal mLet mFin mNp mNb mOuts mWant mFnd mTape mNum mNam mFst mBnm (upd mW (279 + (4 * (mW 8))).toNatClampNeg (mW 0)) mUn mSl mKp mnNum mnNam mnBo mnBn) := hB0.set 6 hw (Nat.le_of_ble_eq_true rfl) rfl
    refine lv_aload_n S.1 S.2.1 dX12_tells_91 rfl (lv_at hl 1 rfl) ?_
    refine g_get (v := .ref (α (k + 6))) S hK hP (hB0 0 _ rfl) rfl inX12 9 (by decide) qw1383 rfl dX12_tells_92 ?_
    refine lv_iload S.1 S.2.1 dX12_tells_95 (lv_at hl 0 rfl) ?_
    refine lv_iconst (v := 1) S.1 S.2.1 dX12_tells_97 (by decide) ?_
    refine lv_iadd S.1 S.2.1 dX12_tells_98 ?_
    refine lv_iload_n S.1 S.2.1 dX12_tells_99 rfl (lv_at hl 2 rfl) ?_
    refine g_iast S hK hP hD hS (hB0 6 _ rfl) (by first | exact (tl_at (by rw [tells_c1 (by assumption)]; exact vin_d (by decide)) (vin_d (by decide))).1 | exact (tl_at (tells_c2 hy0 (by assumption)) (vin_d (by decide))).1) dX12_tells_100 (fun w2 H locs hw hP hD hS => ?_)
    have hF := Same.set hF 6 hw (by decide)
    have hB0 : Blk w2 k (cM D α k mTaped mErr mPpl mBts mUs mRa mSt mKi mWd mVal mLet mFin mNp mNb mOuts mWant mFnd mTape mNum mNam mFst mBnm (upd (upd mW (279 + (4 * (mW 8))).toNatClampNeg (mW 0)) ((279 + (4 * (mW 8))) + 1).toNatClampNeg kd) mUn mSl mKp mnNum mnNam mnBo mnBn) := hB0.set 6 hw (Nat.le_of_ble_eq_true rfl) rfl
    refine lv_aload_n S.1 S.2.1 dX12_tells_101 rfl (lv_at hl 1 rfl) ?_
    refine g_get (v := .ref (α (k + 6))) S hK hP (hB0 0 _ rfl) rfl inX12 9 (by decide) qw1383 rfl dX12_tells_102 ?_
    refine lv_iload S.1 S.2.1 dX12_tells_105 (lv_at hl 0 rfl) ?_
    refine lv_iconst (v := 2) S.1 S.2.1 dX12_tells_107 (by decide) ?_
    refine lv_iadd S.1 S.2.1 dX12_tells_108 ?_
    refine lv_iload_n S.1 S.2.1 dX12_tells_109 rfl (lv_at hl 3 rfl) ?_
    refine g_iast S hK hP hD hS (hB0 6 _ rfl) (by first | exact (tl_at (by rw [tells_c1 (by assumption)]; exact vin_d (by decide)) (vin_d (by decide))).1 | exact (tl_at (tells_c2 hy0 (by assumption)) (vin_d (by decide))).1) dX12_tells_110 (fun w3 H locs hw hP hD hS => ?_)
    have hF := Same.set hF 6 hw (by decide)
    have hB0 : Blk w3 k (cM D α k mTaped mErr mPpl mBts mUs mRa mSt mKi mWd mVal mLet mFin mNp mNb mOuts mWant mFnd mTape mNum mNam mFst mBnm (upd (upd (upd mW (279 + (4 * (mW 8))).toNatClampNeg (mW 0)) ((279 + (4 * (mW 8))) + 1).toNatClampNeg kd) ((279 + (4 * (mW 8))) + 2).toNatClampNeg one) mUn mSl mKp mnNum mnNam mnBo mnBn) := hB0.set 6 hw (Nat.le_of_ble_eq_true rfl) rfl
    refine lv_aload_n S.1 S.2.1 dX12_tells_111 rfl (lv_at hl 1 rfl) ?_
    refine g_get (v := .ref (α (k + 6))) S hK hP (hB0 0 _ rfl) rfl inX12 9 (by decide) qw1383 rfl dX12_tells_112 ?_
    refine lv_iload S.1 S.2.1 dX12_tells_115 (lv_at hl 0 rfl) ?_
    refine lv_iconst (v := 3) S.1 S.2.1 dX12_tells_117 (by decide) ?_
    refine lv_iadd S.1 S.2.1 dX12_tells_118 ?_
    refine lv_iload_n S.1 S.2.1 dX12_tells_119 rfl (lv_at hl 4 rfl) ?_
    refine g_iast S hK hP hD hS (hB0 6 _ rfl) (by first | exact (tl_at (by rw [tells_c1 (by assumption)]; exact vin_d (by decide)) (vin_d (by decide))).1 | exact (tl_at (tells_c2 hy0 (by assumption)) (vin_d (by decide))).1) dX12_tells_120 (fun w4 H locs hw hP hD hS => ?_)
    have hF := Same.set hF 6 hw (by decide)
    have hB0 : Blk w4 k (cM D α k mTaped mErr mPpl mBts mUs mRa mSt mKi mWd mVal mLet mFin mNp mNb mOuts mWant mFnd mTape mNum mNam mFst mBnm (upd (upd (upd (upd mW (279 + (4 * (mW 8))).toNatClampNeg (mW 0)) ((279 + (4 * (mW 8))) + 1).toNatClampNeg kd) ((279 + (4 * (mW 8))) + 2).toNatClampNeg one) ((279 + (4 * (mW 8))) + 3).toNatClampNeg two) mUn mSl mKp mnNum mnNam mnBo mnBn) := hB0.set 6 hw (Nat.le_of_ble_eq_true rfl) rfl
    refine lv_aload_n S.1 S.2.1 dX12_tells_121 rfl (lv_at hl 1 rfl) ?_
    refine g_get (v := .ref (α (k + 6))) S hK hP (hB0 0 _ rfl) rfl inX12 9 (by decide) qw1383 rfl dX12_tells_122 ?_
    refine lv_bipush (v := 8) S.1 S.2.1 dX12_tells_125 (by decide) ?_
    refine lv_dup2_11 S.1 S.2.1 dX12_tells_127 rfl rfl ?_
    refine g_iald S hK hP (hB0 6 _ rfl) (by first | assumption | exact vin_d (by decide) | exact vp_in_nI (by omega) (by decide) | decide) dX12_tells_128 ?_
    refine lv_iconst (v := 1) S.1 S.2.1 dX12_tells_129 (by decide) ?_
    refine lv_iadd S.1 S.2.1 dX12_tells_130 ?_
    refine g_iast S hK hP hD hS (hB0 6 _ rfl) (by first | assumption | exact vin_d (by decide) | exact vp_in_nI (by omega) (by decide) | decide) dX12_tells_131 (fun w5 H locs hw hP hD hS => ?_)
    have hF := Same.set hF 6 hw (by decide)
    have hB0 : Blk w5 k (cM D α k mTaped mErr mPpl mBts mUs mRa mSt mKi mWd mVal mLet mFin mNp mNb mOuts mWant mFnd mTape mNum mNam mFst mBnm (upd (upd (upd (upd (upd mW (279 + (4 * (mW 8))).toNatClampNeg (mW 0)) ((279 + (4 * (mW 8))) + 1).toNatClampNeg kd) ((279 + (4 * (mW 8))) + 2).toNatClampNeg one) ((279 + (4 * (mW 8))) + 3).toNatClampNeg two) 8 (((upd (upd (upd (upd mW (279 + (4 * (mW 8))).toNatClampNeg (mW 0)) ((279 + (4 * (mW 8))) + 1).toNatClampNeg kd) ((279 + (4 * (mW 8))) + 2).toNatClampNeg one) ((279 + (4 * (mW 8))) + 3).toNatClampNeg two) 8) + 1)) mUn mSl mKp mnNum mnNam mnBo mnBn) := hB0.set 6 hw (Nat.le_of_ble_eq_true rfl) rfl
    have hf : (f_X12_tells mW kd one two) = (upd (upd (upd (upd (upd mW (279 + (4 * (mW 8))).toNatClampNeg (mW 0)) ((279 + (4 * (mW 8))) + 1).toNatClampNeg kd) ((279 + (4 * (mW 8))) + 2).toNatClampNeg one) ((279 + (4 * (mW 8))) + 3).toNatClampNeg two) 8 (((upd (upd (upd (upd mW (279 + (4 * (mW 8))).toNatClampNeg (mW 0)) ((279 + (4 * (mW 8))) + 1).toNatClampNeg kd) ((279 + (4 * (mW 8))) + 2).toNatClampNeg one) ((279 + (4 * (mW 8))) + 3).toNatClampNeg two) 8) + 1)) := if_neg c1
    exact g_vret S hr hlk hP hD hS (rfl) (⟨by rw [hf]; exact hB0, hF⟩) dX12_tells_132
  · refine lv_iconst (v := 4) S.1 S.2.1 dX12_tells_12 (by decide) ?_
    refine lv_istore (lv' := [(4, .int 4), (0, .ref (α (k))), (1, .int kd), (2, .int one), (3, .int two)]) S.1 S.2.1 dX12_tells_13 hl (by decide) rfl (fun ls hl => ?_)
    have lp15 : ∀ (j n : Nat), n + j = 116 → ∀ (wl : va_W) (H : Heap) (locs : List Loc) (ls : Array Slot), va_P D vwCl wl H → va_D A wl → va_S A s.heap H locs → Same w wl k 14 → Blk wl k (cM D α k mTaped mErr mPpl mBts mUs mRa mSt mKi mWd mVal mLet mFin mNp mNb mOuts mWant mFnd mTape mNum mNam mFst mBnm (L_X12_tells_15 mW n) mUn mSl mKp mnNum mnNam mnBo mnBn) → lv_has ls 5 [(4, .int (nI (n + 4))), (0, .ref (α (k))), (1, .int kd), (2, .int one), (3, .int two)] → W pg l en ({ frames := 0, cells := 0, slots := 0, locals := 0 } : Room) s mi ar below me co H locs 0 0 (MQ below (gQ D A none (fun w1 => Blk w1 k (cM D α k mTaped mErr mPpl mBts mUs mRa mSt mKi mWd mVal mLet mFin mNp mNb mOuts mWant mFnd mTape mNum mNam mFst mBnm (f_X12_tells mW kd one two) mUn mSl mKp mnNum mnNam mnBo mnBn) ∧ Same w w1 k 14)) ar s 0 0 A) (F0 mi 15 ls []) := by
      intro j
      induction j with
      | zero =>
        intro n hn wl H locs ls hP hD hS hF hB0 hl
        have hn : 116 = n := hn.symm
        subst hn
        refine lv_iload S.1 S.2.1 dX12_tells_15 (lv_at hl 0 rfl) ?_
        refine lv_bipush (v := 120) S.1 S.2.1 dX12_tells_17 (by decide) ?_
        refine lv_icmp_ge (tgt := 52) S.1 S.2.1 dX12_tells_19 (by decide) (fun (c2 : 120 ≤ (nI (116 + 4))) => ?_) (fun (c2 : ¬ 120 ≤ (nI (116 + 4))) => absurd c2 (lp_out (s := 4) (by decide)))
        refine lv_aload_n S.1 S.2.1 dX12_tells_52 rfl (lv_at hl 1 rfl) ?_
        refine g_get (v := .ref (α (k + 6))) S hK hP (hB0 0 _ rfl) rfl inX12 9 (by decide) qw1383 rfl dX12_tells_53 ?_
        refine lv_bipush (v := 8) S.1 S.2.1 dX12_tells_56 (by decide) ?_
        refine lv_dup2_11 S.1 S.2.1 dX12_tells_58 rfl rfl ?_
        refine g_iald S hK hP (hB0 6 _ rfl) (by first | assumption | exact vin_d (by decide) | exact vp_in_nI (by omega) (by decide) | decide) dX12_tells_59 ?_
        refine lv_iconst (v := 1) S.1 S.2.1 dX12_tells_60 (by decide) ?_
        refine lv_isub S.1 S.2.1 dX12_tells_61 ?_
        refine g_iast S hK hP hD hS (hB0 6 _ rfl) (by first | assumption | exact vin_d (by decide) | exact vp_in_nI (by omega) (by decide) | decide) dX12_tells_62 (fun w6 H locs hw hP hD hS => ?_)
        have hF := Same.set hF 6 hw (by decide)
        have hB0 : Blk w6 k (cM D α k mTaped mErr mPpl mBts mUs mRa mSt mKi mWd mVal mLet mFin mNp mNb mOuts mWant mFnd mTape mNum mNam mFst mBnm (upd (L_X12_tells_15 mW 116) 8 (((L_X12_tells_15 mW 116) 8) - 1)) mUn mSl mKp mnNum mnNam mnBo mnBn) := hB0.set 6 hw (Nat.le_of_ble_eq_true rfl) rfl
        refine lv_sipush (v := 279) S.1 S.2.1 dX12_tells_63 (by decide) ?_
        refine lv_iconst (v := 4) S.1 S.2.1 dX12_tells_66 (by decide) ?_
        refine lv_aload_n S.1 S.2.1 dX12_tells_67 rfl (lv_at hl 1 rfl) ?_
        refine g_get (v := .ref (α (k + 6))) S hK hP (hB0 0 _ rfl) rfl inX12 9 (by decide) qw1383 rfl dX12_tells_68 ?_
        refine lv_bipush (v := 8) S.1 S.2.1 dX12_tells_71 (by decide) ?_
        refine g_iald S hK hP (hB0 6 _ rfl) (by first | assumption | exact vin_d (by decide) | exact vp_in_nI (by omega) (by decide) | decide) dX12_tells_73 ?_
        refine lv_imul S.1 S.2.1 dX12_tells_74 ?_
        refine lv_iadd S.1 S.2.1 dX12_tells_75 ?_
        refine lv_istore (lv' := [(4, .int (279 + (4 * ((upd (L_X12_tells_15 mW 116) 8 (((L_X12_tells_15 mW 116) 8) - 1)) 8)))), (0, .ref (α (k))), (1, .int kd), (2, .int one), (3, .int two)]) S.1 S.2.1 dX12_tells_76 hl (by decide) rfl (fun ls hl => ?_)
        refine lv_aload_n S.1 S.2.1 dX12_tells_78 rfl (lv_at hl 1 rfl) ?_
        refine g_get (v := .ref (α (k + 6))) S hK hP (hB0 0 _ rfl) rfl inX12 9 (by decide) qw1383 rfl dX12_tells_79 ?_
        refine lv_iload S.1 S.2.1 dX12_tells_82 (lv_at hl 0 rfl) ?_
        refine lv_aload_n S.1 S.2.1 dX12_tells_84 rfl (lv_at hl 1 rfl) ?_
        refine g_get (v := .ref (α (k + 6))) S hK hP (hB0 0 _ rfl) rfl inX12 9 (by decide) qw1383 rfl dX12_tells_85 ?_
        refine lv_iconst (v := 0) S.1 S.2.1 dX12_tells_88 (by decide) ?_
        refine g_iald S hK hP (hB0 6 _ rfl) (by first | assumption | exact vin_d (by decide) | exact vp_in_nI (by omega) (by decide) | decide) dX12_tells_89 ?_
        refine g_iast S hK hP hD hS (hB0 6 _ rfl) (by first | exact (tl_at0 (by rw [tells_c1 (by assumption)]; exact vin_d (by decide))).1 | exact (tl_at0 (tells_c2 hy0 (by assumption))).1) dX12_tells_90 (fun w7 H locs hw hP hD hS => ?_)
        have hF := Same.set hF 6 hw (by decide)
        have hB0 : Blk w7 k (cM D α k mTaped mErr mPpl mBts mUs mRa mSt mKi mWd mVal mLet mFin mNp mNb mOuts mWant mFnd mTape mNum mNam mFst mBnm (upd (upd (L_X12_tells_15 mW 116) 8 (((L_X12_tells_15 mW 116) 8) - 1)) (279 + (4 * ((upd (L_X12_tells_15 mW 116) 8 (((L_X12_tells_15 mW 116) 8) - 1)) 8))).toNatClampNeg ((upd (L_X12_tells_15 mW 116) 8 (((L_X12_tells_15 mW 116) 8) - 1)) 0)) mUn mSl mKp mnNum mnNam mnBo mnBn) := hB0.set 6 hw (Nat.le_of_ble_eq_true rfl) rfl
        refine lv_aload_n S.1 S.2.1 dX12_tells_91 rfl (lv_at hl 1 rfl) ?_
        refine g_get (v := .ref (α (k + 6))) S hK hP (hB0 0 _ rfl) rfl inX12 9 (by decide) qw1383 rfl dX12_tells_92 ?_
        refine lv_iload S.1 S.2.1 dX12_tells_95 (lv_at hl 0 rfl) ?_
        refine lv_iconst (v := 1) S.1 S.2.1 dX12_tells_97 (by decide) ?_
        refine lv_iadd S.1 S.2.1 dX12_tells_98 ?_
        refine lv_iload_n S.1 S.2.1 dX12_tells_99 rfl (lv_at hl 2 rfl) ?_
        refine g_iast S hK hP hD hS (hB0 6 _ rfl) (by first | exact (tl_at (by rw [tells_c1 (by assumption)]; exact vin_d (by decide)) (vin_d (by decide))).1 | exact (tl_at (tells_c2 hy0 (by assumption)) (vin_d (by decide))).1) dX12_tells_100 (fun w8 H locs hw hP hD hS => ?_)
        have hF := Same.set hF 6 hw (by decide)
        have hB0 : Blk w8 k (cM D α k mTaped mErr mPpl mBts mUs mRa mSt mKi mWd mVal mLet mFin mNp mNb mOuts mWant mFnd mTape mNum mNam mFst mBnm (upd (upd (upd (L_X12_tells_15 mW 116) 8 (((L_X12_tells_15 mW 116) 8) - 1)) (279 + (4 * ((upd (L_X12_tells_15 mW 116) 8 (((L_X12_tells_15 mW 116) 8) - 1)) 8))).toNatClampNeg ((upd (L_X12_tells_15 mW 116) 8 (((L_X12_tells_15 mW 116) 8) - 1)) 0)) ((279 + (4 * ((upd (L_X12_tells_15 mW 116) 8 (((L_X12_tells_15 mW 116) 8) - 1)) 8))) + 1).toNatClampNeg kd) mUn mSl mKp mnNum mnNam mnBo mnBn) := hB0.set 6 hw (Nat.le_of_ble_eq_true rfl) rfl
        refine lv_aload_n S.1 S.2.1 dX12_tells_101 rfl (lv_at hl 1 rfl) ?_
        refine g_get (v := .ref (α (k + 6))) S hK hP (hB0 0 _ rfl) rfl inX12 9 (by decide) qw1383 rfl dX12_tells_102 ?_
        refine lv_iload S.1 S.2.1 dX12_tells_105 (lv_at hl 0 rfl) ?_
        refine lv_iconst (v := 2) S.1 S.2.1 dX12_tells_107 (by decide) ?_
        refine lv_iadd S.1 S.2.1 dX12_tells_108 ?_
        refine lv_iload_n S.1 S.2.1 dX12_tells_109 rfl (lv_at hl 3 rfl) ?_
        refine g_iast S hK hP hD hS (hB0 6 _ rfl) (by first | exact (tl_at (by rw [tells_c1 (by assumption)]; exact vin_d (by decide)) (vin_d (by decide))).1 | exact (tl_at (tells_c2 hy0 (by assumption)) (vin_d (by decide))).1) dX12_tells_110 (fun w9 H locs hw hP hD hS => ?_)
        have hF := Same.set hF 6 hw (by decide)
        have hB0 : Blk w9 k (cM D α k mTaped mErr mPpl mBts mUs mRa mSt mKi mWd mVal mLet mFin mNp mNb mOuts mWant mFnd mTape mNum mNam mFst mBnm (upd (upd (upd (upd (L_X12_tells_15 mW 116) 8 (((L_X12_tells_15 mW 116) 8) - 1)) (279 + (4 * ((upd (L_X12_tells_15 mW 116) 8 (((L_X12_tells_15 mW 116) 8) - 1)) 8))).toNatClampNeg ((upd (L_X12_tells_15 mW 116) 8 (((L_X12_tells_15 mW 116) 8) - 1)) 0)) ((279 + (4 * ((upd (L_X12_tells_15 mW 116) 8 (((L_X12_tells_15 mW 116) 8) - 1)) 8))) + 1).toNatClampNeg kd) ((279 + (4 * ((upd (L_X12_tells_15 mW 116) 8 (((L_X12_tells_15 mW 116) 8) - 1)) 8))) + 2).toNatClampNeg one) mUn mSl mKp mnNum mnNam mnBo mnBn) := hB0.set 6 hw (Nat.le_of_ble_eq_true rfl) rfl
        refine lv_aload_n S.1 S.2.1 dX12_tells_111 rfl (lv_at hl 1 rfl) ?_
        refine g_get (v := .ref (α (k + 6))) S hK hP (hB0 0 _ rfl) rfl inX12 9 (by decide) qw1383 rfl dX12_tells_112 ?_
        refine lv_iload S.1 S.2.1 dX12_tells_115 (lv_at hl 0 rfl) ?_
        refine lv_iconst (v := 3) S.1 S.2.1 dX12_tells_117 (by decide) ?_
        refine lv_iadd S.1 S.2.1 dX12_tells_118 ?_
        refine lv_iload_n S.1 S.2.1 dX12_tells_119 rfl (lv_at hl 4 rfl) ?_
        refine g_iast S hK hP hD hS (hB0 6 _ rfl) (by first | exact (tl_at (by rw [tells_c1 (by assumption)]; exact vin_d (by decide)) (vin_d (by decide))).1 | exact (tl_at (tells_c2 hy0 (by assumption)) (vin_d (by decide))).1) dX12_tells_120 (fun w10 H locs hw hP hD hS => ?_)
        have hF := Same.set hF 6 hw (by decide)
        have hB0 : Blk w10 k (cM D α k mTaped mErr mPpl mBts mUs mRa mSt mKi mWd mVal mLet mFin mNp mNb mOuts mWant mFnd mTape mNum mNam mFst mBnm (upd (upd (upd (upd (upd (L_X12_tells_15 mW 116) 8 (((L_X12_tells_15 mW 116) 8) - 1)) (279 + (4 * ((upd (L_X12_tells_15 mW 116) 8 (((L_X12_tells_15 mW 116) 8) - 1)) 8))).toNatClampNeg ((upd (L_X12_tells_15 mW 116) 8 (((L_X12_tells_15 mW 116) 8) - 1)) 0)) ((279 + (4 * ((upd (L_X12_tells_15 mW 116) 8 (((L_X12_tells_15 mW 116) 8) - 1)) 8))) + 1).toNatClampNeg kd) ((279 + (4 * ((upd (L_X12_tells_15 mW 116) 8 (((L_X12_tells_15 mW 116) 8) - 1)) 8))) + 2).toNatClampNeg one) ((279 + (4 * ((upd (L_X12_tells_15 mW 116) 8 (((L_X12_tells_15 mW 116) 8) - 1)) 8))) + 3).toNatClampNeg two) mUn mSl mKp mnNum mnNam mnBo mnBn) := hB0.set 6 hw (Nat.le_of_ble_eq_true rfl) rfl
        refine lv_aload_n S.1 S.2.1 dX12_tells_121 rfl (lv_at hl 1 rfl) ?_
        refine g_get (v := .ref (α (k + 6))) S hK hP (hB0 0 _ rfl) rfl inX12 9 (by decide) qw1383 rfl dX12_tells_122 ?_
        refine lv_bipush (v := 8) S.1 S.2.1 dX12_tells_125 (by decide) ?_
        refine lv_dup2_11 S.1 S.2.1 dX12_tells_127 rfl rfl ?_
        refine g_iald S hK hP (hB0 6 _ rfl) (by first | assumption | exact vin_d (by decide) | exact vp_in_nI (by omega) (by decide) | decide) dX12_tells_128 ?_
        refine lv_iconst (v := 1) S.1 S.2.1 dX12_tells_129 (by decide) ?_
        refine lv_iadd S.1 S.2.1 dX12_tells_130 ?_
        refine g_iast S hK hP hD hS (hB0 6 _ rfl) (by first | assumption | exact vin_d (by decide) | exact vp_in_nI (by omega) (by decide) | decide) dX12_tells_131 (fun w11 H locs hw hP hD hS => ?_)
        have hF := Same.set hF 6 hw (by decide)
        have hB0 : Blk w11 k (cM D α k mTaped mErr mPpl mBts mUs mRa mSt mKi mWd mVal mLet mFin mNp mNb mOuts mWant mFnd mTape mNum mNam mFst mBnm (upd (upd (upd (upd (upd (upd (L_X12_tells_15 mW 116) 8 (((L_X12_tells_15 mW 116) 8) - 1)) (279 + (4 * ((upd (L_X12_tells_15 mW 116) 8 (((L_X12_tells_15 mW 116) 8) - 1)) 8))).toNatClampNeg ((upd (L_X12_tells_15 mW 116) 8 (((L_X12_tells_15 mW 116) 8) - 1)) 0)) ((279 + (4 * ((upd (L_X12_tells_15 mW 116) 8 (((L_X12_tells_15 mW 116) 8) - 1)) 8))) + 1).toNatClampNeg kd) ((279 + (4 * ((upd (L_X12_tells_15 mW 116) 8 (((L_X12_tells_15 mW 116) 8) - 1)) 8))) + 2).toNatClampNeg one) ((279 + (4 * ((upd (L_X12_tells_15 mW 116) 8 (((L_X12_tells_15 mW 116) 8) - 1)) 8))) + 3).toNatClampNeg two) 8 (((upd (upd (upd (upd (upd (L_X12_tells_15 mW 116) 8 (((L_X12_tells_15 mW 116) 8) - 1)) (279 + (4 * ((upd (L_X12_tells_15 mW 116) 8 (((L_X12_tells_15 mW 116) 8) - 1)) 8))).toNatClampNeg ((upd (L_X12_tells_15 mW 116) 8 (((L_X12_tells_15 mW 116) 8) - 1)) 0)) ((279 + (4 * ((upd (L_X12_tells_15 mW 116) 8 (((L_X12_tells_15 mW 116) 8) - 1)) 8))) + 1).toNatClampNeg kd) ((279 + (4 * ((upd (L_X12_tells_15 mW 116) 8 (((L_X12_tells_15 mW 116) 8) - 1)) 8))) + 2).toNatClampNeg one) ((279 + (4 * ((upd (L_X12_tells_15 mW 116) 8 (((L_X12_tells_15 mW 116) 8) - 1)) 8))) + 3).toNatClampNeg two) 8) + 1)) mUn mSl mKp mnNum mnNam mnBo mnBn) := hB0.set 6 hw (Nat.le_of_ble_eq_true rfl) rfl
        have hf : (f_X12_tells mW kd one two) = (upd (upd (upd (upd (upd (upd (L_X12_tells_15 mW 116) 8 (((L_X12_tells_15 mW 116) 8) - 1)) (279 + (4 * ((upd (L_X12_tells_15 mW 116) 8 (((L_X12_tells_15 mW 116) 8) - 1)) 8))).toNatClampNeg ((upd (L_X12_tells_15 mW 116) 8 (((L_X12_tells_15 mW 116) 8) - 1)) 0)) ((279 + (4 * ((upd (L_X12_tells_15 mW 116) 8 (((L_X12_tells_15 mW 116) 8) - 1)) 8))) + 1).toNatClampNeg kd) ((279 + (4 * ((upd (L_X12_tells_15 mW 116) 8 (((L_X12_tells_15 mW 116) 8) - 1)) 8))) + 2).toNatClampNeg one) ((279 + (4 * ((upd (L_X12_tells_15 mW 116) 8 (((L_X12_tells_15 mW 116) 8) - 1)) 8))) + 3).toNatClampNeg two) 8 (((upd (upd (upd (upd (upd (L_X12_tells_15 mW 116) 8 (((L_X12_tells_15 mW 116) 8) - 1)) (279 + (4 * ((upd (L_X12_tells_15 mW 116) 8 (((L_X12_tells_15 mW 116) 8) - 1)) 8))).toNatClampNeg ((upd (L_X12_tells_15 mW 116) 8 (((L_X12_tells_15 mW 116) 8) - 1)) 0)) ((279 + (4 * ((upd (L_X12_tells_15 mW 116) 8 (((L_X12_tells_15 mW 116) 8) - 1)) 8))) + 1).toNatClampNeg kd) ((279 + (4 * ((upd (L_X12_tells_15 mW 116) 8 (((L_X12_tells_15 mW 116) 8) - 1)) 8))) + 2).toNatClampNeg one) ((279 + (4 * ((upd (L_X12_tells_15 mW 116) 8 (((L_X12_tells_15 mW 116) 8) - 1)) 8))) + 3).toNatClampNeg two) 8) + 1)) := if_pos c1
        exact g_vret S hr hlk hP hD hS (rfl) (⟨by rw [hf]; exact hB0, hF⟩) dX12_tells_132
      | succ j ih =>
        intro n hn wl H locs ls hP hD hS hF hB0 hl
        refine lv_iload S.1 S.2.1 dX12_tells_15 (lv_at hl 0 rfl) ?_
        refine lv_bipush (v := 120) S.1 S.2.1 dX12_tells_17 (by decide) ?_
        refine lv_icmp_ge (tgt := 52) S.1 S.2.1 dX12_tells_19 (by decide) (fun (c3 : 120 ≤ (nI (n + 4))) => absurd c3 (lp_in (s := 4) (by decide) hn)) (fun (c3 : ¬ 120 ≤ (nI (n + 4))) => ?_)
        refine lv_aload_n S.1 S.2.1 dX12_tells_22 rfl (lv_at hl 1 rfl) ?_
        refine g_get (v := .ref (α (k + 6))) S hK hP (hB0 0 _ rfl) rfl inX12 9 (by decide) qw1383 rfl dX12_tells_23 ?_
        refine lv_sipush (v := 279) S.1 S.2.1 dX12_tells_26 (by decide) ?_
        refine lv_iload S.1 S.2.1 dX12_tells_29 (lv_at hl 0 rfl) ?_
        refine lv_iadd S.1 S.2.1 dX12_tells_31 ?_
        refine lv_iconst (v := 4) S.1 S.2.1 dX12_tells_32 (by decide) ?_
        refine lv_isub S.1 S.2.1 dX12_tells_33 ?_
        refine lv_aload_n S.1 S.2.1 dX12_tells_34 rfl (lv_at hl 1 rfl) ?_
        refine g_get (v := .ref (α (k + 6))) S hK hP (hB0 0 _ rfl) rfl inX12 9 (by decide) qw1383 rfl dX12_tells_35 ?_
        refine lv_sipush (v := 279) S.1 S.2.1 dX12_tells_38 (by decide) ?_
        refine lv_iload S.1 S.2.1 dX12_tells_41 (lv_at hl 0 rfl) ?_
        refine lv_iadd S.1 S.2.1 dX12_tells_43 ?_
        refine g_iald S hK hP (hB0 6 _ rfl) ((tl_ix (by omega)).2.2.1) dX12_tells_44 ?_
        refine g_iast S hK hP hD hS (hB0 6 _ rfl) ((tl_ix (by omega)).2.2.2) dX12_tells_45 (fun w12 H locs hw hP hD hS => ?_)
        have hF := Same.set hF 6 hw (by decide)
        have hB0 : Blk w12 k (cM D α k mTaped mErr mPpl mBts mUs mRa mSt mKi mWd mVal mLet mFin mNp mNb mOuts mWant mFnd mTape mNum mNam mFst mBnm (upd (L_X12_tells_15 mW n) ((279 + (nI (n + 4))) - 4).toNatClampNeg ((L_X12_tells_15 mW n) (279 + (nI (n + 4))).toNatClampNeg)) mUn mSl mKp mnNum mnNam mnBo mnBn) := hB0.set 6 hw (Nat.le_of_ble_eq_true rfl) rfl
        refine lv_iinc (v := (nI (n + 5))) (lv' := [(4, .int (nI (n + 5))), (0, .ref (α (k))), (1, .int kd), (2, .int one), (3, .int two)]) S.1 S.2.1 dX12_tells_46 hl (k := 0) rfl ((nI_succ (n + 4)).symm) (by decide) rfl (fun ls hl => ?_)
        refine lv_goto (tgt := 15) S.1 S.2.1 dX12_tells_49 (by decide) ?_
        have hL : (L_X12_tells_15 mW (n + 1)) = (upd (L_X12_tells_15 mW n) ((279 + (nI (n + 4))) - 4).toNatClampNeg ((L_X12_tells_15 mW n) (279 + (nI (n + 4))).toNatClampNeg)) := (iter_s _ _ _).trans (rfl)
        refine ih (n + 1) (by omega) _ _ _ _ hP hD hS hF ?_ ?_
        · rw [hL]; exact hB0
        · exact lv_sub hl [0, 1, 2, 3, 4] rfl
    have hL0 : (L_X12_tells_15 mW 0) = mW := iter_z _ _
    exact lp15 116 0 (Nat.zero_add _) _ _ _ _ hP hD hS hF (by rw [hL0]; exact hB0) (lv_sub hl [0, 1, 2, 3, 4] rfl)

theorem tells_loop {mW : Nat → Int32} : ∀ n, n ≤ 116 → ∀ j, j < 279 → L_X12_tells_15 mW n j = mW j :=
  iter_inv (fun _ (s : Nat → Int32) => ∀ j, j < 279 → s j = mW j) (fun j _ => rfl) (fun n s hn h j hj => by
    refine (upd_ne ?_).trans (h j hj)
    have h1 := (tl_ix hn).2.1
    omega)
theorem tells_w {f : Nat → Int32} {c a0 a1 a2 a3 : Int32} (h : vp_in c 30) {j : Nat} (hj : j < 279) : upd (upd (upd (upd f (279 + 4 * c).toNatClampNeg a0) (279 + 4 * c + 1).toNatClampNeg a1) (279 + 4 * c + 2).toNatClampNeg a2) (279 + 4 * c + 3).toNatClampNeg a3 j = f j := by
  have h0 := (tl_at0 h).2
  have h1 := (tl_at h (x := 1) (vin_d (by decide))).2
  have h2 := (tl_at h (x := 2) (vin_d (by decide))).2
  have h3 := (tl_at h (x := 3) (vin_d (by decide))).2
  refine (upd_ne ?_).trans ((upd_ne ?_).trans ((upd_ne ?_).trans (upd_ne ?_)))
  · rw [h3]; omega
  · rw [h2]; omega
  · rw [h1]; omega
  · rw [h0]; omega
theorem tells_c {f G : Nat → Int32} (h : vp_in (f 8) 30) (hG : ∀ j, j < 279 → G j = f j) : (∀ j, j < 279 → j ≠ 8 → upd G 8 (G 8 + 1) j = f j) ∧ vp_in (upd G 8 (G 8 + 1) 8) 31 := by
  refine ⟨fun j hj h8 => (upd_ne h8).trans (hG j hj), ?_⟩
  have e : upd G 8 (G 8 + 1) 8 = f 8 + 1 := by
    unfold upd
    rw [if_pos rfl, hG 8 (by decide)]
  rw [e]
  obtain ⟨e1, h1⟩ := vin_nI h
  rw [e1, show (1 : Int32) = nI 1 from rfl, nI_add]
  exact vp_in_nI (by omega) (by decide)
theorem tells_9 {mW : Nat → Int32} {kd one two : Int32} (h0 : vp_in (mW 8) 31) : (∀ j, j < 279 → j ≠ 8 → f_X12_tells mW kd one two j = mW j) ∧ vp_in (f_X12_tells mW kd one two 8) 31 := by
  by_cases c : mW 8 = 30
  · have hL := tells_loop (mW := mW) 116 (Nat.le_refl _)
    have e8 : (upd (L_X12_tells_15 mW 116) 8 (L_X12_tells_15 mW 116 8 - 1)) 8 = 29 := by
      unfold upd
      rw [if_pos rfl, hL 8 (by decide), c]
      rfl
    have hh : vp_in ((upd (L_X12_tells_15 mW 116) 8 (L_X12_tells_15 mW 116 8 - 1)) 8) 30 := by
      rw [e8]
      exact vin_d (by decide)
    unfold f_X12_tells
    rw [if_pos c]
    have r := tells_c hh (fun j hj => tells_w (a0 := (upd (L_X12_tells_15 mW 116) 8 (L_X12_tells_15 mW 116 8 - 1)) 0) (a1 := kd) (a2 := one) (a3 := two) hh hj)
    exact ⟨fun j hj h8 => (r.1 j hj h8).trans ((upd_ne h8).trans (hL j hj)), r.2⟩
  · have hh : vp_in (mW 8) 30 := by
      obtain ⟨e, h1⟩ := vin_nI h0
      rw [e] at c ⊢
      refine vp_in_nI ?_ (by decide)
      have : (mW 8).toNatClampNeg ≠ 30 := fun q => c (by rw [q]; rfl)
      omega
    unfold f_X12_tells
    rw [if_neg c]
    exact tells_c hh (fun j hj => tells_w (a0 := mW 0) (a1 := kd) (a2 := one) (a3 := two) hh hj)
