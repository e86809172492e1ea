def f_X12_wordOfLog (x : Int32) : Int64 := (if x = 0 then 19965331 else (if x = 1 then 277925 else (if x = 2 then 16258515 else (if x = 3 then 394532 else (if x = 4 then 659117163 else (if x = 5 then 6346132 else (if x = 6 then 113757348 else 21678547)))))))
set_option maxHeartbeats 4000000 in
set_option maxRecDepth 100000 in
theorem c_X12_wordOfLog (l : Launch) (D : va_G) (A : Nat → Prop) (w : va_W) (α : Nat → Nat) (x : Int32) : Met l yX12_wordOfLog (ws_ yX12_wordOfLog cX12_wordOfLog 1 (some .long)) ({ frames := 0, cells := 0, slots := 0, locals := 0 }) (gPre D A [.int x] w) (gR (some (.long (f_X12_wordOfLog x)))) 0 0 A := by
  refine g_met [(0, .int x)] (plainFor_of_name (by decide)) (Nat.le_of_ble_eq_true rfl) rfl (fun pg en s mi ar below me co ls S hK hP hD hE hS hr hlk hnm hl => ?_)
  refine lv_iload_n S.1 S.2.1 dX12_wordOfLog_0 rfl (lv_at hl 0 rfl) ?_
  by_cases k1_0 : x = 0
  · refine lv_tableIn (tgt := 44) S.1 S.2.1 dX12_wordOfLog_1 (by rw [k1_0]; decide) (by rw [k1_0]; decide) (by rw [k1_0]; rfl) (by decide) ?_
    refine lv_ldc2 (v := 19965331) S.1 S.2.1 S.2.2.2.1 (S.2.2.2.2 _ qw1938) dX12_wordOfLog_44 ?_
    have hf : (f_X12_wordOfLog x) = 19965331 := if_pos k1_0
    exact g_lretR S hr hlk hS (by rw [hf] <;> rfl) dX12_wordOfLog_47
  by_cases k1_1 : x = 1
  · refine lv_tableIn (tgt := 48) S.1 S.2.1 dX12_wordOfLog_1 (by rw [k1_1]; decide) (by rw [k1_1]; decide) (by rw [k1_1]; rfl) (by decide) ?_
    refine lv_ldc2 (v := 277925) S.1 S.2.1 S.2.2.2.1 (S.2.2.2.2 _ qw1939) dX12_wordOfLog_48 ?_
    have hf : (f_X12_wordOfLog x) = 277925 := (if_neg k1_0).trans (if_pos k1_1)
    exact g_lretR S hr hlk hS (by rw [hf] <;> rfl) dX12_wordOfLog_51
  by_cases k1_2 : x = 2
  · refine lv_tableIn (tgt := 52) S.1 S.2.1 dX12_wordOfLog_1 (by rw [k1_2]; decide) (by rw [k1_2]; decide) (by rw [k1_2]; rfl) (by decide) ?_
    refine lv_ldc2 (v := 16258515) S.1 S.2.1 S.2.2.2.1 (S.2.2.2.2 _ qw1940) dX12_wordOfLog_52 ?_
    have hf : (f_X12_wordOfLog x) = 16258515 := (if_neg k1_0).trans ((if_neg k1_1).trans (if_pos k1_2))
    exact g_lretR S hr hlk hS (by rw [hf] <;> rfl) dX12_wordOfLog_55
  by_cases k1_3 : x = 3
  · refine lv_tableIn (tgt := 56) S.1 S.2.1 dX12_wordOfLog_1 (by rw [k1_3]; decide) (by rw [k1_3]; decide) (by rw [k1_3]; rfl) (by decide) ?_
    refine lv_ldc2 (v := 394532) S.1 S.2.1 S.2.2.2.1 (S.2.2.2.2 _ qw1917) dX12_wordOfLog_56 ?_
    have hf : (f_X12_wordOfLog x) = 394532 := (if_neg k1_0).trans ((if_neg k1_1).trans ((if_neg k1_2).trans (if_pos k1_3)))
    exact g_lretR S hr hlk hS (by rw [hf] <;> rfl) dX12_wordOfLog_59
  by_cases k1_4 : x = 4
  · refine lv_tableIn (tgt := 60) S.1 S.2.1 dX12_wordOfLog_1 (by rw [k1_4]; decide) (by rw [k1_4]; decide) (by rw [k1_4]; rfl) (by decide) ?_
    refine lv_ldc2 (v := 659117163) S.1 S.2.1 S.2.2.2.1 (S.2.2.2.2 _ qw1918) dX12_wordOfLog_60 ?_
    have hf : (f_X12_wordOfLog x) = 659117163 := (if_neg k1_0).trans ((if_neg k1_1).trans ((if_neg k1_2).trans ((if_neg k1_3).trans (if_pos k1_4))))
    exact g_lretR S hr hlk hS (by rw [hf] <;> rfl) dX12_wordOfLog_63
  by_cases k1_5 : x = 5
  · refine lv_tableIn (tgt := 64) S.1 S.2.1 dX12_wordOfLog_1 (by rw [k1_5]; decide) (by rw [k1_5]; decide) (by rw [k1_5]; rfl) (by decide) ?_
    refine lv_ldc2 (v := 6346132) S.1 S.2.1 S.2.2.2.1 (S.2.2.2.2 _ qw1941) dX12_wordOfLog_64 ?_
    have hf : (f_X12_wordOfLog x) = 6346132 := (if_neg k1_0).trans ((if_neg k1_1).trans ((if_neg k1_2).trans ((if_neg k1_3).trans ((if_neg k1_4).trans (if_pos k1_5)))))
    exact g_lretR S hr hlk hS (by rw [hf] <;> rfl) dX12_wordOfLog_67
  by_cases k1_6 : x = 6
  · refine lv_tableIn (tgt := 68) S.1 S.2.1 dX12_wordOfLog_1 (by rw [k1_6]; decide) (by rw [k1_6]; decide) (by rw [k1_6]; rfl) (by decide) ?_
    refine lv_ldc2 (v := 113757348) S.1 S.2.1 S.2.2.2.1 (S.2.2.2.2 _ qw1942) dX12_wordOfLog_68 ?_
    have hf : (f_X12_wordOfLog x) = 113757348 := (if_neg k1_0).trans ((if_neg k1_1).trans ((if_neg k1_2).trans ((if_neg k1_3).trans ((if_neg k1_4).trans ((if_neg k1_5).trans (if_pos k1_6))))))
    exact g_lretR S hr hlk hS (by rw [hf] <;> rfl) dX12_wordOfLog_71
  have hout : x.toInt < (0 : Int) ∨ (6 : Int) < x.toInt := sw_out (lo := 0) (n := 7) (by decide) (fun i hi => by match i, hi with | 0, _ => exact k1_0 | 1, _ => exact k1_1 | 2, _ => exact k1_2 | 3, _ => exact k1_3 | 4, _ => exact k1_4 | 5, _ => exact k1_5 | 6, _ => exact k1_6 | i + 7, h => exact absurd h (by omega))
  refine lv_tableOut (tgt := 72) S.1 S.2.1 dX12_wordOfLog_1 hout (by decide) ?_
  refine lv_ldc2 (v := 21678547) S.1 S.2.1 S.2.2.2.1 (S.2.2.2.2 _ qw1943) dX12_wordOfLog_72 ?_
  have hf : (f_X12_wordOfLog x) = 21678547 := (if_neg k1_0).trans ((if_neg k1_1).trans ((if_neg k1_2).trans ((if_neg k1_3).trans ((if_neg k1_4).trans ((if_neg k1_5).trans (if_neg k1_6))))))
  exact g_lretR S hr hlk hS (by rw [hf] <;> rfl) dX12_wordOfLog_75
noncomputable def S_X12_saysStory_2 (i : Int32) : Int32 × Int32 × Int32 := (f_X12_startsText i)
noncomputable def S_X12_saysStory_33 (mW : Nat → Int32) (i : Int32) (n : Nat) (sn : Int32 × Int32) : Int32 × Int32 := (f_X12_saysNumber (sn.2) ((S_X12_saysStory_2 i).2.2) (sn.1) (mW (279 + (4 * (nI n))).toNatClampNeg))
noncomputable def S_X12_saysStory_39 (mW : Nat → Int32) (i : Int32) (n : Nat) (sn : Int32 × Int32) : Int32 × Int32 := (f_X12_says ((S_X12_saysStory_33 mW i n sn).2) ((S_X12_saysStory_2 i).2.2) ((S_X12_saysStory_33 mW i n sn).1) 32)
noncomputable def S_X12_saysStory_54 (mW : Nat → Int32) (i : Int32) (n : Nat) (sn : Int32 × Int32) : Int32 × Int32 := (f_X12_saysWord ((S_X12_saysStory_39 mW i n sn).2) ((S_X12_saysStory_2 i).2.2) ((S_X12_saysStory_39 mW i n sn).1) (f_X12_wordOfLog (mW ((279 + (4 * (nI n))) + 1).toNatClampNeg)))
noncomputable def S_X12_saysStory_60 (mW : Nat → Int32) (i : Int32) (n : Nat) (sn : Int32 × Int32) : Int32 × Int32 := (f_X12_says ((S_X12_saysStory_54 mW i n sn).2) ((S_X12_saysStory_2 i).2.2) ((S_X12_saysStory_54 mW i n sn).1) 32)
noncomputable def S_X12_saysStory_72 (mW : Nat → Int32) (i : Int32) (n : Nat) (sn : Int32 × Int32) : Int32 × Int32 := (f_X12_saysNumber ((S_X12_saysStory_60 mW i n sn).2) ((S_X12_saysStory_2 i).2.2) ((S_X12_saysStory_60 mW i n sn).1) (mW ((279 + (4 * (nI n))) + 2).toNatClampNeg))
noncomputable def S_X12_saysStory_78 (mW : Nat → Int32) (i : Int32) (n : Nat) (sn : Int32 × Int32) : Int32 × Int32 := (f_X12_says ((S_X12_saysStory_72 mW i n sn).2) ((S_X12_saysStory_2 i).2.2) ((S_X12_saysStory_72 mW i n sn).1) 32)
noncomputable def S_X12_saysStory_90 (mW : Nat → Int32) (i : Int32) (n : Nat) (sn : Int32 × Int32) : Int32 × Int32 := (f_X12_saysNumber ((S_X12_saysStory_78 mW i n sn).2) ((S_X12_saysStory_2 i).2.2) ((S_X12_saysStory_78 mW i n sn).1) (mW ((279 + (4 * (nI n))) + 3).toNatClampNeg))
noncomputable def S_X12_saysStory_96 (mW : Nat → Int32) (i : Int32) (n : Nat) (sn : Int32 × Int32) : Int32 × Int32 := (f_X12_says ((S_X12_saysStory_90 mW i n sn).2) ((S_X12_saysStory_2 i).2.2) ((S_X12_saysStory_90 mW i n sn).1) 10)
noncomputable def G_X12_saysStory_7 (mW : Nat → Int32) (i : Int32) (n : Nat) (sn : Int32 × Int32) : Int32 × Int32 := ((S_X12_saysStory_96 mW i n sn).1, (S_X12_saysStory_96 mW i n sn).2)
noncomputable def L_X12_saysStory_7 (mW : Nat → Int32) (i : Int32) : Nat → Int32 × Int32 := iter_ (G_X12_saysStory_7 mW i) ((S_X12_saysStory_2 i).1, (S_X12_saysStory_2 i).2.1)
noncomputable def f_X12_saysStory (mW : Nat → Int32) (i : Int32) : Int32 × Int32 × Int32 := ((L_X12_saysStory_7 mW i ((mW 8).toNatClampNeg)).1, (L_X12_saysStory_7 mW i ((mW 8).toNatClampNeg)).2, (S_X12_saysStory_2 i).2.2)
set_option maxHeartbeats 4000000 in
set_option maxRecDepth 100000 in
theorem c_X12_saysStory (l : Launch) (D : va_G) (A : Nat → Prop) (w : va_W) (α : Nat → Nat) (k : Nat) (mTaped : Int32) (mErr : Int32) (mPpl : Int32) (mBts : Int32) (mUs : Int32) (mRa : Int32) (mSt : Int32) (mKi : Int32) (mWd : Int64) (mVal : Int32) (mLet : Int32) (mFin : Int32) (mNp : Int32) (mNb : Int32) (mOuts : Int32) (mWant : Int32) (mFnd : Int32) (mTape : Nat → Int32) (mNum : Nat → Int32) (mNam : Nat → Int32) (mFst : Nat → Int32) (mBnm : Nat → Int32) (mW : Nat → Int32) (mUn : Nat → Int32) (mSl : Nat → Int32) (mKp : Nat → Int32) (mnNum : Nat → Int32) (mnNam : Nat → Int32) (mnBo : Nat → Int32) (mnBn : Nat → Int32) (i : Int32) (hB0 : Blk w k (cM D α k mTaped mErr mPpl mBts mUs mRa mSt mKi mWd mVal mLet mFin mNp mNb mOuts mWant mFnd mTape mNum mNam mFst mBnm mW mUn mSl mKp mnNum mnNam mnBo mnBn)) (hy0 : vp_in (mW 8) 31) : Met l yX12_saysStory (ws_ yX12_saysStory cX12_saysStory 4 none) ({ frames := 2, cells := 0, slots := 0, locals := 45 }) (gPre D A [.ref (α (k)), .int i] w) (gQ D A none (fun w1 => Blk w1 k (cM D α k mTaped mErr mPpl mBts mUs mRa mSt mKi mWd mVal mLet mFin mNp mNb ((f_X12_saysStory mW i).2.1) ((f_X12_saysStory mW i).2.2) ((f_X12_saysStory mW i).1) mTape mNum mNam mFst mBnm mW mUn mSl mKp mnNum mnNam mnBo mnBn) ∧ Same w w1 k 14)) 0 0 A := by
  refine g_met [(0, .ref (α (k))), (1, .int i)] (plainFor_of_name (by decide)) (Nat.le_of_ble_eq_true rfl) rfl (fun pg en s mi ar below me co ls S hK hP hD hE hS hr hlk hnm hl => ?_)
  have hF : Same w w k 14 := Same.rf
  have hln := vin_lt (show vp_in (mW 8) 31 by assumption)
  refine lv_aload_n S.1 S.2.1 dX12_saysStory_0 rfl (lv_at hl 0 rfl) ?_
  refine lv_iload_n S.1 S.2.1 dX12_saysStory_1 rfl (lv_at hl 1 rfl) ?_
  have hNm : (f_X12_startsText i) = (S_X12_saysStory_2 i) := rfl
  have hCon := (c_X12_startsText l D A w α (k) mTaped mErr mPpl mBts mUs mRa mSt mKi mWd mVal mLet mFin mNp mNb mOuts mWant mFnd mTape mNum mNam mFst mBnm mW mUn mSl mKp mnNum mnNam mnBo mnBn i hB0)
  rw [hNm] at hCon
  refine g_aft0 (st1 := []) (g_V (As := [.int i]) (rest := []) S mi_X12_startsText qw1898 hCon hK hP hD hE hS (hB0 0 _ rfl) rfl rfl rfl hl.1 (Nat.le_of_ble_eq_true rfl) rfl rfl ⟨(Nat.le_of_ble_eq_true rfl), (Nat.le_of_ble_eq_true rfl)⟩ ⟨(Nat.le_of_ble_eq_true rfl), (Nat.le_of_ble_eq_true rfl)⟩ dX12_saysStory_2) hS rfl (fun w1 H locs hQ hP hD hS => ?_)
  have hF := hF.trans hQ.2
  have hB0 : Blk w1 k (cM D α k mTaped mErr mPpl mBts mUs mRa mSt mKi mWd mVal mLet mFin mNp mNb ((S_X12_saysStory_2 i).2.1) ((S_X12_saysStory_2 i).2.2) ((S_X12_saysStory_2 i).1) mTape mNum mNam mFst mBnm mW mUn mSl mKp mnNum mnNam mnBo mnBn) := hQ.1
  refine lv_iconst (v := 0) S.1 S.2.1 dX12_saysStory_5 (by decide) ?_
  refine lv_istore_n (lv' := [(2, .int 0), (0, .ref (α (k))), (1, .int i)]) S.1 S.2.1 dX12_saysStory_6 rfl hl (by decide) rfl (fun ls hl => ?_)
  have lp7 : ∀ (j n : Nat), n + j = (mW 8).toNatClampNeg → ∀ (wl : va_W) (H : Heap) (locs : List Loc) (ls : Array Slot), va_P D vwCl wl H → va_D A wl → va_S A s.heap H locs → Same w wl k 14 → Blk wl k (cM D α k mTaped mErr mPpl mBts mUs mRa mSt mKi mWd mVal mLet mFin mNp mNb ((L_X12_saysStory_7 mW i n).2) ((S_X12_saysStory_2 i).2.2) ((L_X12_saysStory_7 mW i n).1) mTape mNum mNam mFst mBnm mW mUn mSl mKp mnNum mnNam mnBo mnBn) → lv_has ls 4 [(2, .int (nI n)), (0, .ref (α (k))), (1, .int i)] → W pg l en ({ frames := 2, cells := 0, slots := 0, locals := 45 } : Room) s mi ar below me co H locs 0 0 (MQ below (gQ D A none (fun w1 => Blk w1 k (cM D α k mTaped mErr mPpl mBts mUs mRa mSt mKi mWd mVal mLet mFin mNp mNb ((f_X12_saysStory mW i).2.1) ((f_X12_saysStory mW i).2.2) ((f_X12_saysStory mW i).1) mTape mNum mNam mFst mBnm mW mUn mSl mKp mnNum mnNam mnBo mnBn) ∧ Same w w1 k 14)) ar s 0 0 A) (F0 mi 7 ls []) := by
    intro j
    induction j with
    | zero =>
      intro n hn wl H locs ls hP hD hS hF hB0 hl
      have hn : (mW 8).toNatClampNeg = n := hn.symm
      subst hn
      refine lv_iload_n S.1 S.2.1 dX12_saysStory_7 rfl (lv_at hl 0 rfl) ?_
      refine lv_aload_n S.1 S.2.1 dX12_saysStory_8 rfl (lv_at hl 1 rfl) ?_
      refine g_get (v := .ref (α (k + 6))) S hK hP (hB0 0 _ rfl) rfl inX12 9 (by decide) qw1383 rfl dX12_saysStory_9 ?_
      refine lv_bipush (v := 8) S.1 S.2.1 dX12_saysStory_12 (by decide) ?_
      refine g_iald S hK hP (hB0 6 _ rfl) (by first | assumption | exact vin_d (by decide) | exact vp_in_nI (by omega) (by decide) | decide) dX12_saysStory_14 ?_
      refine lv_icmp_ge (tgt := 105) S.1 S.2.1 dX12_saysStory_15 (by decide) (fun (c1 : (mW 8) ≤ (nI ((mW 8).toNatClampNeg))) => ?_) (fun (c1 : ¬ (mW 8) ≤ (nI ((mW 8).toNatClampNeg))) => absurd c1 (lp_out0 (rfl)))
      have hf : (f_X12_saysStory mW i) = ((L_X12_saysStory_7 mW i ((mW 8).toNatClampNeg)).1, (L_X12_saysStory_7 mW i ((mW 8).toNatClampNeg)).2, (S_X12_saysStory_2 i).2.2) := rfl
      exact g_vret S hr hlk hP hD hS (rfl) (⟨by rw [hf]; dsimp only; exact hB0, hF⟩) dX12_saysStory_105
    | succ j ih =>
      intro n hn wl H locs ls hP hD hS hF hB0 hl
      refine lv_iload_n S.1 S.2.1 dX12_saysStory_7 rfl (lv_at hl 0 rfl) ?_
      refine lv_aload_n S.1 S.2.1 dX12_saysStory_8 rfl (lv_at hl 1 rfl) ?_
      refine g_get (v := .ref (α (k + 6))) S hK hP (hB0 0 _ rfl) rfl inX12 9 (by decide) qw1383 rfl dX12_saysStory_9 ?_
      refine lv_bipush (v := 8) S.1 S.2.1 dX12_saysStory_12 (by decide) ?_
      refine g_iald S hK hP (hB0 6 _ rfl) (by first | assumption | exact vin_d (by decide) | exact vp_in_nI (by omega) (by decide) | decide) dX12_saysStory_14 ?_
      refine lv_icmp_ge (tgt := 105) S.1 S.2.1 dX12_saysStory_15 (by decide) (fun (c2 : (mW 8) ≤ (nI n)) => absurd c2 (lp_in0 (rfl) hn)) (fun (c2 : ¬ (mW 8) ≤ (nI n)) => ?_)
      refine lv_sipush (v := 279) S.1 S.2.1 dX12_saysStory_18 (by decide) ?_
      refine lv_iconst (v := 4) S.1 S.2.1 dX12_saysStory_21 (by decide) ?_
      refine lv_iload_n S.1 S.2.1 dX12_saysStory_22 rfl (lv_at hl 0 rfl) ?_
      refine lv_imul S.1 S.2.1 dX12_saysStory_23 ?_
      refine lv_iadd S.1 S.2.1 dX12_saysStory_24 ?_
      refine lv_istore_n (lv' := [(3, .int (279 + (4 * (nI n)))), (2, .int (nI n)), (0, .ref (α (k))), (1, .int i)]) S.1 S.2.1 dX12_saysStory_25 rfl hl (by decide) rfl (fun ls hl => ?_)
      refine lv_aload_n S.1 S.2.1 dX12_saysStory_26 rfl (lv_at hl 2 rfl) ?_
      refine lv_aload_n S.1 S.2.1 dX12_saysStory_27 rfl (lv_at hl 2 rfl) ?_
      refine g_get (v := .ref (α (k + 6))) S hK hP (hB0 0 _ rfl) rfl inX12 9 (by decide) qw1383 rfl dX12_saysStory_28 ?_
      refine lv_iload_n S.1 S.2.1 dX12_saysStory_31 rfl (lv_at hl 0 rfl) ?_
      refine g_iald S hK hP (hB0 6 _ rfl) ((tl_at0 (vp_in_nI (by omega) (by decide))).1) dX12_saysStory_32 ?_
      have hNm : (f_X12_saysNumber ((L_X12_saysStory_7 mW i n).2) ((S_X12_saysStory_2 i).2.2) ((L_X12_saysStory_7 mW i n).1) (mW (279 + (4 * (nI n))).toNatClampNeg)) = (S_X12_saysStory_33 mW i n (L_X12_saysStory_7 mW i n)) := rfl
      have hCon := (c_X12_saysNumber l D A wl α (k) mTaped mErr mPpl mBts mUs mRa mSt mKi mWd mVal mLet mFin mNp mNb ((L_X12_saysStory_7 mW i n).2) ((S_X12_saysStory_2 i).2.2) ((L_X12_saysStory_7 mW i n).1) mTape mNum mNam mFst mBnm mW mUn mSl mKp mnNum mnNam mnBo mnBn (mW (279 + (4 * (nI n))).toNatClampNeg) hB0)
      rw [hNm] at hCon
      refine g_aft0 (st1 := []) (g_V (As := [.int (mW (279 + (4 * (nI n))).toNatClampNeg)]) (rest := []) S mi_X12_saysNumber qw1919 hCon hK hP hD hE hS (hB0 0 _ rfl) rfl rfl rfl hl.1 (Nat.le_of_ble_eq_true rfl) rfl rfl ⟨(Nat.le_of_ble_eq_true rfl), (Nat.le_of_ble_eq_true rfl)⟩ ⟨(Nat.le_of_ble_eq_true rfl), (Nat.le_of_ble_eq_true rfl)⟩ dX12_saysStory_33) hS rfl (fun w2 H locs hQ hP hD hS => ?_)
      have hF := hF.trans hQ.2
      have hB0 : Blk w2 k (cM D α k mTaped mErr mPpl mBts mUs mRa mSt mKi mWd mVal mLet mFin mNp mNb ((S_X12_saysStory_33 mW i n (L_X12_saysStory_7 mW i n)).2) ((S_X12_saysStory_2 i).2.2) ((S_X12_saysStory_33 mW i n (L_X12_saysStory_7 mW i n)).1) mTape mNum mNam mFst mBnm mW mUn mSl mKp mnNum mnNam mnBo mnBn) := hQ.1
      refine lv_aload_n S.1 S.2.1 dX12_saysStory_36 rfl (lv_at hl 2 rfl) ?_
      refine lv_bipush (v := 32) S.1 S.2.1 dX12_saysStory_37 (by decide) ?_
      have hNm : (f_X12_says ((S_X12_saysStory_33 mW i n (L_X12_saysStory_7 mW i n)).2) ((S_X12_saysStory_2 i).2.2) ((S_X12_saysStory_33 mW i n (L_X12_saysStory_7 mW i n)).1) 32) = (S_X12_saysStory_39 mW i n (L_X12_saysStory_7 mW i n)) := rfl
      have hCon := (c_X12_says l D A w2 α (k) mTaped mErr mPpl mBts mUs mRa mSt mKi mWd mVal mLet mFin mNp mNb ((S_X12_saysStory_33 mW i n (L_X12_saysStory_7 mW i n)).2) ((S_X12_saysStory_2 i).2.2) ((S_X12_saysStory_33 mW i n (L_X12_saysStory_7 mW i n)).1) mTape mNum mNam mFst mBnm mW mUn mSl mKp mnNum mnNam mnBo mnBn 32 hB0)
      rw [hNm] at hCon
      refine g_aft0 (st1 := []) (g_V (As := [.int 32]) (rest := []) S mi_X12_says qw1911 hCon hK hP hD hE hS (hB0 0 _ rfl) rfl rfl rfl hl.1 (Nat.le_of_ble_eq_true rfl) rfl rfl ⟨(Nat.le_of_ble_eq_true rfl), (Nat.le_of_ble_eq_true rfl)⟩ ⟨(Nat.le_of_ble_eq_true rfl), (Nat.le_of_ble_eq_true rfl)⟩ dX12_saysStory_39) hS rfl (fun w3 H locs hQ hP hD hS => ?_)
      have hF := hF.trans hQ.2
      have hB0 : Blk w3 k (cM D α k mTaped mErr mPpl mBts mUs mRa mSt mKi mWd mVal mLet mFin mNp mNb ((S_X12_saysStory_39 mW i n (L_X12_saysStory_7 mW i n)).2) ((S_X12_saysStory_2 i).2.2) ((S_X12_saysStory_39 mW i n (L_X12_saysStory_7 mW i n)).1) mTape mNum mNam mFst mBnm mW mUn mSl mKp mnNum mnNam mnBo mnBn) := hQ.1
      refine lv_aload_n S.1 S.2.1 dX12_saysStory_42 rfl (lv_at hl 2 rfl) ?_
      refine lv_aload_n S.1 S.2.1 dX12_saysStory_43 rfl (lv_at hl 2 rfl) ?_
      refine g_get (v := .ref (α (k + 6))) S hK hP (hB0 0 _ rfl) rfl inX12 9 (by decide) qw1383 rfl dX12_saysStory_44 ?_
      refine lv_iload_n S.1 S.2.1 dX12_saysStory_47 rfl (lv_at hl 0 rfl) ?_
      refine lv_iconst (v := 1) S.1 S.2.1 dX12_saysStory_48 (by decide) ?_
      refine lv_iadd S.1 S.2.1 dX12_saysStory_49 ?_
      refine g_iald S hK hP (hB0 6 _ rfl) ((tl_at (vp_in_nI (by omega) (by decide)) (vin_d (by decide))).1) dX12_saysStory_50 ?_
      refine g_aftR0 (st1 := [.long (f_X12_wordOfLog (mW ((279 + (4 * (nI n))) + 1).toNatClampNeg)), .ref (α (k))]) (g_St (As := [.int (mW ((279 + (4 * (nI n))) + 1).toNatClampNeg)]) (rest := [.ref (α (k))]) S ms_X12_wordOfLog qw1935 (c_X12_wordOfLog l D A w3 α (mW ((279 + (4 * (nI n))) + 1).toNatClampNeg)) hK hP hD hE hS rfl rfl hl.1 (Nat.le_of_ble_eq_true rfl) rfl rfl ⟨(Nat.le_of_ble_eq_true rfl), (Nat.le_of_ble_eq_true rfl)⟩ ⟨(Nat.le_of_ble_eq_true rfl), (Nat.le_of_ble_eq_true rfl)⟩ dX12_saysStory_51) hS rfl (fun locs hS => ?_)
      have hNm : (f_X12_saysWord ((S_X12_saysStory_39 mW i n (L_X12_saysStory_7 mW i n)).2) ((S_X12_saysStory_2 i).2.2) ((S_X12_saysStory_39 mW i n (L_X12_saysStory_7 mW i n)).1) (f_X12_wordOfLog (mW ((279 + (4 * (nI n))) + 1).toNatClampNeg))) = (S_X12_saysStory_54 mW i n (L_X12_saysStory_7 mW i n)) := rfl
      have hCon := (c_X12_saysWord l D A w3 α (k) mTaped mErr mPpl mBts mUs mRa mSt mKi mWd mVal mLet mFin mNp mNb ((S_X12_saysStory_39 mW i n (L_X12_saysStory_7 mW i n)).2) ((S_X12_saysStory_2 i).2.2) ((S_X12_saysStory_39 mW i n (L_X12_saysStory_7 mW i n)).1) mTape mNum mNam mFst mBnm mW mUn mSl mKp mnNum mnNam mnBo mnBn (f_X12_wordOfLog (mW ((279 + (4 * (nI n))) + 1).toNatClampNeg)) hB0)
      rw [hNm] at hCon
      refine g_aft0 (st1 := []) (g_V (As := [.long (f_X12_wordOfLog (mW ((279 + (4 * (nI n))) + 1).toNatClampNeg))]) (rest := []) S mi_X12_saysWord qw1906 hCon hK hP hD hE hS (hB0 0 _ rfl) rfl rfl rfl hl.1 (Nat.le_of_ble_eq_true rfl) rfl rfl ⟨(Nat.le_of_ble_eq_true rfl), (Nat.le_of_ble_eq_true rfl)⟩ ⟨(Nat.le_of_ble_eq_true rfl), (Nat.le_of_ble_eq_true rfl)⟩ dX12_saysStory_54) hS rfl (fun w4 H locs hQ hP hD hS => ?_)
      have hF := hF.trans hQ.2
      have hB0 : Blk w4 k (cM D α k mTaped mErr mPpl mBts mUs mRa mSt mKi mWd mVal mLet mFin mNp mNb ((S_X12_saysStory_54 mW i n (L_X12_saysStory_7 mW i n)).2) ((S_X12_saysStory_2 i).2.2) ((S_X12_saysStory_54 mW i n (L_X12_saysStory_7 mW i n)).1) mTape mNum mNam mFst mBnm mW mUn mSl mKp mnNum mnNam mnBo mnBn) := hQ.1
      refine lv_aload_n S.1 S.2.1 dX12_saysStory_57 rfl (lv_at hl 2 rfl) ?_
      refine lv_bipush (v := 32) S.1 S.2.1 dX12_saysStory_58 (by decide) ?_
      have hNm : (f_X12_says ((S_X12_saysStory_54 mW i n (L_X12_saysStory_7 mW i n)).2) ((S_X12_saysStory_2 i).2.2) ((S_X12_saysStory_54 mW i n (L_X12_saysStory_7 mW i n)).1) 32) = (S_X12_saysStory_60 mW i n (L_X12_saysStory_7 mW i n)) := rfl
      have hCon := (c_X12_says l D A w4 α (k) mTaped mErr mPpl mBts mUs mRa mSt mKi mWd mVal mLet mFin mNp mNb ((S_X12_saysStory_54 mW i n (L_X12_saysStory_7 mW i n)).2) ((S_X12_saysStory_2 i).2.2) ((S_X12_saysStory_54 mW i n (L_X12_saysStory_7 mW i n)).1) mTape mNum mNam mFst mBnm mW mUn mSl mKp mnNum mnNam mnBo mnBn 32 hB0)
      rw [hNm] at hCon
      refine g_aft0 (st1 := []) (g_V (As := [.int 32]) (rest := []) S mi_X12_says qw1911 hCon hK hP hD hE hS (hB0 0 _ rfl) rfl rfl rfl hl.1 (Nat.le_of_ble_eq_true rfl) rfl rfl ⟨(Nat.le_of_ble_eq_true rfl), (Nat.le_of_ble_eq_true rfl)⟩ ⟨(Nat.le_of_ble_eq_true rfl), (Nat.le_of_ble_eq_true rfl)⟩ dX12_saysStory_60) hS rfl (fun w5 H locs hQ hP hD hS => ?_)
      have hF := hF.trans hQ.2
      have hB0 : Blk w5 k (cM D α k mTaped mErr mPpl mBts mUs mRa mSt mKi mWd mVal mLet mFin mNp mNb ((S_X12_saysStory_60 mW i n (L_X12_saysStory_7 mW i n)).2) ((S_X12_saysStory_2 i).2.2) ((S_X12_saysStory_60 mW i n (L_X12_saysStory_7 mW i n)).1) mTape mNum mNam mFst mBnm mW mUn mSl mKp mnNum mnNam mnBo mnBn) := hQ.1
      refine lv_aload_n S.1 S.2.1 dX12_saysStory_63 rfl (lv_at hl 2 rfl) ?_
      refine lv_aload_n S.1 S.2.1 dX12_saysStory_64 rfl (lv_at hl 2 rfl) ?_
      refine g_get (v := .ref (α (k + 6))) S hK hP (hB0 0 _ rfl) rfl inX12 9 (by decide) qw1383 rfl dX12_saysStory_65 ?_
      refine lv_iload_n S.1 S.2.1 dX12_saysStory_68 rfl (lv_at hl 0 rfl) ?_
      refine lv_iconst (v := 2) S.1 S.2.1 dX12_saysStory_69 (by decide) ?_
      refine lv_iadd S.1 S.2.1 dX12_saysStory_70 ?_
      refine g_iald S hK hP (hB0 6 _ rfl) ((tl_at (vp_in_nI (by omega) (by decide)) (vin_d (by decide))).1) dX12_saysStory_71 ?_
      have hNm : (f_X12_saysNumber ((S_X12_saysStory_60 mW i n (L_X12_saysStory_7 mW i n)).2) ((S_X12_saysStory_2 i).2.2) ((S_X12_saysStory_60 mW i n (L_X12_saysStory_7 mW i n)).1) (mW ((279 + (4 * (nI n))) + 2).toNatClampNeg)) = (S_X12_saysStory_72 mW i n (L_X12_saysStory_7 mW i n)) := rfl
      have hCon := (c_X12_saysNumber l D A w5 α (k) mTaped mErr mPpl mBts mUs mRa mSt mKi mWd mVal mLet mFin mNp mNb ((S_X12_saysStory_60 mW i n (L_X12_saysStory_7 mW i n)).2) ((S_X12_saysStory_2 i).2.2) ((S_X12_saysStory_60 mW i n (L_X12_saysStory_7 mW i n)).1) mTape mNum mNam mFst mBnm mW mUn mSl mKp mnNum mnNam mnBo mnBn (mW ((279 + (4 * (nI n))) + 2).toNatClampNeg) hB0)
      rw [hNm] at hCon
      refine g_aft0 (st1 := []) (g_V (As := [.int (mW ((279 + (4 * (nI n))) + 2).toNatClampNeg)]) (rest := []) S mi_X12_saysNumber qw1919 hCon hK hP hD hE hS (hB0 0 _ rfl) rfl rfl rfl hl.1 (Nat.le_of_ble_eq_true rfl) rfl rfl ⟨(Nat.le_of_ble_eq_true rfl), (Nat.le_of_ble_eq_true rfl)⟩ ⟨(Nat.le_of_ble_eq_true rfl), (Nat.le_of_ble_eq_true rfl)⟩ dX12_saysStory_72) hS rfl (fun w6 H locs hQ hP hD hS => ?_)
      have hF := hF.trans hQ.2
      have hB0 : Blk w6 k (cM D α k mTaped mErr mPpl mBts mUs mRa mSt mKi mWd mVal mLet mFin mNp mNb ((S_X12_saysStory_72 mW i n (L_X12_saysStory_7 mW i n)).2) ((S_X12_saysStory_2 i).2.2) ((S_X12_saysStory_72 mW i n (L_X12_saysStory_7 mW i n)).1) mTape mNum mNam mFst mBnm mW mUn mSl mKp mnNum mnNam mnBo mnBn) := hQ.1
      refine lv_aload_n S.1 S.2.1 dX12_saysStory_75 rfl (lv_at hl 2 rfl) ?_
      refine lv_bipush (v := 32) S.1 S.2.1 dX12_saysStory_76 (by decide) ?_
      have hNm : (f_X12_says ((S_X12_saysStory_72 mW i n (L_X12_saysStory_7 mW i n)).2) ((S_X12_saysStory_2 i).2.2) ((S_X12_saysStory_72 mW i n (L_X12_saysStory_7 mW i n)).1) 32) = (S_X12_saysStory_78 mW i n (L_X12_saysStory_7 mW i n)) := rfl
      have hCon := (c_X12_says l D A w6 α (k) mTaped mErr mPpl mBts mUs mRa mSt mKi mWd mVal mLet mFin mNp mNb ((S_X12_saysStory_72 mW i n (L_X12_saysStory_7 mW i n)).2) ((S_X12_saysStory_2 i).2.2) ((S_X12_saysStory_72 mW i n (L_X12_saysStory_7 mW i n)).1) mTape mNum mNam mFst mBnm mW mUn mSl mKp mnNum mnNam mnBo mnBn 32 hB0)
      rw [hNm] at hCon
      refine g_aft0 (st1 := []) (g_V (As := [.int 32]) (rest := []) S mi_X12_says qw1911 hCon hK hP hD hE hS (hB0 0 _ rfl) rfl rfl rfl hl.1 (Nat.le_of_ble_eq_true rfl) rfl rfl ⟨(Nat.le_of_ble_eq_true rfl), (Nat.le_of_ble_eq_true rfl)⟩ ⟨(Nat.le_of_ble_eq_true rfl), (Nat.le_of_ble_eq_true rfl)⟩ dX12_saysStory_78) hS rfl (fun w7 H locs hQ hP hD hS => ?_)
      have hF := hF.trans hQ.2
      have hB0 : Blk w7 k (cM D α k mTaped mErr mPpl mBts mUs mRa mSt mKi mWd mVal mLet mFin mNp mNb ((S_X12_saysStory_78 mW i n (L_X12_saysStory_7 mW i n)).2) ((S_X12_saysStory_2 i).2.2) ((S_X12_saysStory_78 mW i n (L_X12_saysStory_7 mW i n)).1) mTape mNum mNam mFst mBnm mW mUn mSl mKp mnNum mnNam mnBo mnBn) := hQ.1
      refine lv_aload_n S.1 S.2.1 dX12_saysStory_81 rfl (lv_at hl 2 rfl) ?_
      refine lv_aload_n S.1 S.2.1 dX12_saysStory_82 rfl (lv_at hl 2 rfl) ?_
      refine g_get (v := .ref (α (k + 6))) S hK hP (hB0 0 _ rfl) rfl inX12 9 (by decide) qw1383 rfl dX12_saysStory_83 ?_
      refine lv_iload_n S.1 S.2.1 dX12_saysStory_86 rfl (lv_at hl 0 rfl) ?_
      refine lv_iconst (v := 3) S.1 S.2.1 dX12_saysStory_87 (by decide) ?_
      refine lv_iadd S.1 S.2.1 dX12_saysStory_88 ?_
      refine g_iald S hK hP (hB0 6 _ rfl) ((tl_at (vp_in_nI (by omega) (by decide)) (vin_d (by decide))).1) dX12_saysStory_89 ?_
      have hNm : (f_X12_saysNumber ((S_X12_saysStory_78 mW i n (L_X12_saysStory_7 mW i n)).2) ((S_X12_saysStory_2 i).2.2) ((S_X12_saysStory_78 mW i n (L_X12_saysStory_7 mW i n)).1) (mW ((279 + (4 * (nI n))) + 3).toNatClampNeg)) = (S_X12_saysStory_90 mW i n (L_X12_saysStory_7 mW i n)) := rfl
      have hCon := (c_X12_saysNumber l D A w7 α (k) mTaped mErr mPpl mBts mUs mRa mSt mKi mWd mVal mLet mFin mNp mNb ((S_X12_saysStory_78 mW i n (L_X12_saysStory_7 mW i n)).2) ((S_X12_saysStory_2 i).2.2) ((S_X12_saysStory_78 mW i n (L_X12_saysStory_7 mW i n)).1) mTape mNum mNam mFst mBnm mW mUn mSl mKp mnNum mnNam mnBo mnBn (mW ((279 + (4 * (nI n))) + 3).toNatClampNeg) hB0)
      rw [hNm] at hCon
      refine g_aft0 (st1 := []) (g_V (As := [.int (mW ((279 + (4 * (nI n))) + 3).toNatClampNeg)]) (rest := []) S mi_X12_saysNumber qw1919 hCon hK hP hD hE hS (hB0 0 _ rfl) rfl rfl rfl hl.1 (Nat.le_of_ble_eq_true rfl) rfl rfl ⟨(Nat.le_of_ble_eq_true rfl), (Nat.le_of_ble_eq_true rfl)⟩ ⟨(Nat.le_of_ble_eq_true rfl), (Nat.le_of_ble_eq_true rfl)⟩ dX12_saysStory_90) hS rfl (fun w8 H locs hQ hP hD hS => ?_)
      have hF := hF.trans hQ.2
      have hB0 : Blk w8 k (cM D α k mTaped mErr mPpl mBts mUs mRa mSt mKi mWd mVal mLet mFin mNp mNb ((S_X12_saysStory_90 mW i n (L_X12_saysStory_7 mW i n)).2) ((S_X12_saysStory_2 i).2.2) ((S_X12_saysStory_90 mW i n (L_X12_saysStory_7 mW i n)).1) mTape mNum mNam mFst mBnm mW mUn mSl mKp mnNum mnNam mnBo mnBn) := hQ.1
      refine lv_aload_n S.1 S.2.1 dX12_saysStory_93 rfl (lv_at hl 2 rfl) ?_
      refine lv_bipush (v := 10) S.1 S.2.1 dX12_saysStory_94 (by decide) ?_
      have hNm : (f_X12_says ((S_X12_saysStory_90 mW i n (L_X12_saysStory_7 mW i n)).2) ((S_X12_saysStory_2 i).2.2) ((S_X12_saysStory_90 mW i n (L_X12_saysStory_7 mW i n)).1) 10) = (S_X12_saysStory_96 mW i n (L_X12_saysStory_7 mW i n)) := rfl
      have hCon := (c_X12_says l D A w8 α (k) mTaped mErr mPpl mBts mUs mRa mSt mKi mWd mVal mLet mFin mNp mNb ((S_X12_saysStory_90 mW i n (L_X12_saysStory_7 mW i n)).2) ((S_X12_saysStory_2 i).2.2) ((S_X12_saysStory_90 mW i n (L_X12_saysStory_7 mW i n)).1) mTape mNum mNam mFst mBnm mW mUn mSl mKp mnNum mnNam mnBo mnBn 10 hB0)
      rw [hNm] at hCon
      refine g_aft0 (st1 := []) (g_V (As := [.int 10]) (rest := []) S mi_X12_says qw1911 hCon hK hP hD hE hS (hB0 0 _ rfl) rfl rfl rfl hl.1 (Nat.le_of_ble_eq_true rfl) rfl rfl ⟨(Nat.le_of_ble_eq_true rfl), (Nat.le_of_ble_eq_true rfl)⟩ ⟨(Nat.le_of_ble_eq_true rfl), (Nat.le_of_ble_eq_true rfl)⟩ dX12_saysStory_96) hS rfl (fun w9 H locs hQ hP hD hS => ?_)
      have hF := hF.trans hQ.2
      have hB0 : Blk w9 k (cM D α k mTaped mErr mPpl mBts mUs mRa mSt mKi mWd mVal mLet mFin mNp mNb ((S_X12_saysStory_96 mW i n (L_X12_saysStory_7 mW i n)).2) ((S_X12_saysStory_2 i).2.2) ((S_X12_saysStory_96 mW i n (L_X12_saysStory_7 mW i n)).1) mTape mNum mNam mFst mBnm mW mUn mSl mKp mnNum mnNam mnBo mnBn) := hQ.1
      refine lv_iinc (v := (nI (n + 1))) (lv' := [(2, .int (nI (n + 1))), (3, .int (279 + (4 * (nI n)))), (0, .ref (α (k))), (1, .int i)]) S.1 S.2.1 dX12_saysStory_99 hl (k := 1) rfl ((nI_succ n).symm) (by decide) rfl (fun ls hl => ?_)
      refine lv_goto (tgt := 7) S.1 S.2.1 dX12_saysStory_102 (by decide) ?_
      have hL : (L_X12_saysStory_7 mW i (n + 1)) = ((S_X12_saysStory_96 mW i n (L_X12_saysStory_7 mW i n)).1, (S_X12_saysStory_96 mW i n (L_X12_saysStory_7 mW i n)).2) := (iter_s _ _ _).trans (show (G_X12_saysStory_7 mW i n (L_X12_saysStory_7 mW i n)) = ((S_X12_saysStory_96 mW i n (L_X12_saysStory_7 mW i n)).1, (S_X12_saysStory_96 mW i n (L_X12_saysStory_7 mW i n)).2) from rfl)
      refine ih (n + 1) (lp_n hn) _ _ _ _ hP hD hS hF ?_ ?_
      · rw [hL]; (try dsimp only); exact hB0
      · exact lv_sub hl [0, 2, 3] rfl
  have hL0 : (L_X12_saysStory_7 mW i 0) = ((S_X12_saysStory_2 i).1, (S_X12_saysStory_2 i).2.1) := iter_z _ _
  exact lp7 ((mW 8).toNatClampNeg) 0 (Nat.zero_add ((mW 8).toNatClampNeg)) _ _ _ _ hP hD hS hF (by rw [hL0]; exact hB0) (lv_sub hl [0, 1, 2] rfl)
noncomputable def S_X12_storyLength_2 (mW : Nat → Int32) : Int32 × Int32 × Int32 := (f_X12_saysStory mW (-1))
noncomputable def f_X12_storyLength (mW : Nat → Int32) : Int32 × Int32 × Int32 × Int32 := ((S_X12_storyLength_2 mW).2.1, (S_X12_storyLength_2 mW).1, (S_X12_storyLength_2 mW).2.1, (S_X12_storyLength_2 mW).2.2)
set_option maxHeartbeats 4000000 in
set_option maxRecDepth 100000 in
theorem c_X12_storyLength (l : Launch) (D : va_G) (A : Nat → Prop) (w : va_W) (α : Nat → Nat) (k : Nat) (mTaped : Int32) (mErr : Int32) (mPpl : Int32) (mBts : Int32) (mUs : Int32) (mRa : Int32) (mSt : Int32) (mKi : Int32) (mWd : Int64) (mVal : Int32) (mLet : Int32) (mFin : Int32) (mNp : Int32) (mNb : Int32) (mOuts : Int32) (mWant : Int32) (mFnd : Int32) (mTape : Nat → Int32) (mNum : Nat → Int32) (mNam : Nat → Int32) (mFst : Nat → Int32) (mBnm : Nat → Int32) (mW : Nat → Int32) (mUn : Nat → Int32) (mSl : Nat → Int32) (mKp : Nat → Int32) (mnNum : Nat → Int32) (mnNam : Nat → Int32) (mnBo : Nat → Int32) (mnBn : Nat → Int32) (hB0 : Blk w k (cM D α k mTaped mErr mPpl mBts mUs mRa mSt mKi mWd mVal mLet mFin mNp mNb mOuts mWant mFnd mTape mNum mNam mFst mBnm mW mUn mSl mKp mnNum mnNam mnBo mnBn)) (hy0 : vp_in (mW 8) 31) : Met l yX12_storyLength (ws_ yX12_storyLength cX12_storyLength 1 (some .int)) ({ frames := 3, cells := 0, slots := 0, locals := 68 }) (gPre D A [.ref (α (k))] w) (gQ D A (some (.int (f_X12_storyLength mW).1)) (fun w1 => Blk w1 k (cM D α k mTaped mErr mPpl mBts mUs mRa mSt mKi mWd mVal mLet mFin mNp mNb ((f_X12_storyLength mW).2.2.1) ((f_X12_storyLength mW).2.2.2) ((f_X12_storyLength mW).2.1) mTape mNum mNam mFst mBnm mW mUn mSl mKp mnNum mnNam mnBo mnBn) ∧ Same w w1 k 14)) 0 0 A := by
  refine g_met [(0, .ref (α (k)))] (plainFor_of_name (by decide)) (Nat.le_of_ble_eq_true rfl) rfl (fun pg en s mi ar below me co ls S hK hP hD hE hS hr hlk hnm hl => ?_)
  have hF : Same w w k 14 := Same.rf
  refine lv_aload_n S.1 S.2.1 dX12_storyLength_0 rfl (lv_at hl 0 rfl) ?_
  refine lv_iconst (v := (-1)) S.1 S.2.1 dX12_storyLength_1 (by decide) ?_
  have hNm : (f_X12_saysStory mW (-1)) = (S_X12_storyLength_2 mW) := rfl
  have hCon := (c_X12_saysStory l D A w α (k) mTaped mErr mPpl mBts mUs mRa mSt mKi mWd mVal mLet mFin mNp mNb mOuts mWant mFnd mTape mNum mNam mFst mBnm mW mUn mSl mKp mnNum mnNam mnBo mnBn (-1) hB0 (by first | assumption | exact vin_d (by decide) | exact vp_in_nI (by omega) (by decide) | decide | omega))
  rw [hNm] at hCon
  refine g_aft0 (st1 := []) (g_V (As := [.int (-1)]) (rest := []) S mi_X12_saysStory qw1931 hCon hK hP hD hE hS (hB0 0 _ rfl) rfl rfl rfl hl.1 (Nat.le_of_ble_eq_true rfl) rfl rfl ⟨(Nat.le_of_ble_eq_true rfl), (Nat.le_of_ble_eq_true rfl)⟩ ⟨(Nat.le_of_ble_eq_true rfl), (Nat.le_of_ble_eq_true rfl)⟩ dX12_storyLength_2) hS rfl (fun w1 H locs hQ hP hD hS => ?_)
  have hF := hF.trans hQ.2
  have hB0 : Blk w1 k (cM D α k mTaped mErr mPpl mBts mUs mRa mSt mKi mWd mVal mLet mFin mNp mNb ((S_X12_storyLength_2 mW).2.1) ((S_X12_storyLength_2 mW).2.2) ((S_X12_storyLength_2 mW).1) mTape mNum mNam mFst mBnm mW mUn mSl mKp mnNum mnNam mnBo mnBn) := hQ.1
  refine lv_aload_n S.1 S.2.1 dX12_storyLength_5 rfl (lv_at hl 0 rfl) ?_
  refine g_get (v := .int ((S_X12_storyLength_2 mW).2.1)) S hK hP (hB0 0 _ rfl) rfl inX12 27 (by decide) qw1401 rfl dX12_storyLength_6 ?_
  have hf : (f_X12_storyLength mW) = ((S_X12_storyLength_2 mW).2.1, (S_X12_storyLength_2 mW).1, (S_X12_storyLength_2 mW).2.1, (S_X12_storyLength_2 mW).2.2) := rfl
  exact g_iret S hr hlk hP hD hS (by rw [hf] <;> rfl) (⟨by rw [hf]; dsimp only; exact hB0, hF⟩) dX12_storyLength_9
noncomputable def S_X12_storyByte_8 (mW : Nat → Int32) (i : Int32) : Int32 × Int32 × Int32 := (f_X12_saysStory mW i)
noncomputable def f_X12_storyByte (mOuts : Int32) (mWant : Int32) (mFnd : Int32) (mW : Nat → Int32) (i : Int32) : Int32 × Int32 × Int32 × Int32 := (if 0 ≤ i then ((S_X12_storyByte_8 mW i).1, (S_X12_storyByte_8 mW i).1, (S_X12_storyByte_8 mW i).2.1, (S_X12_storyByte_8 mW i).2.2) else ((-1), mFnd, mOuts, mWant))
set_option maxHeartbeats 4000000 in
set_option maxRecDepth 100000 in
theorem c_X12_storyByte (l : Launch) (D : va_G) (A : Nat → Prop) (w : va_W) (α : Nat → Nat) (k : Nat) (mTaped : Int32) (mErr : Int32) (mPpl : Int32) (mBts : Int32) (mUs : Int32) (mRa : Int32) (mSt : Int32) (mKi : Int32) (mWd : Int64) (mVal : Int32) (mLet : Int32) (mFin : Int32) (mNp : Int32) (mNb : Int32) (mOuts : Int32) (mWant : Int32) (mFnd : Int32) (mTape : Nat → Int32) (mNum : Nat → Int32) (mNam : Nat → Int32) (mFst : Nat → Int32) (mBnm : Nat → Int32) (mW : Nat → Int32) (mUn : Nat → Int32) (mSl : Nat → Int32) (mKp : Nat → Int32) (mnNum : Nat → Int32) (mnNam : Nat → Int32) (mnBo : Nat → Int32) (mnBn : Nat → Int32) (i : Int32) (hB0 : Blk w k (cM D α k mTaped mErr mPpl mBts mUs mRa mSt mKi mWd mVal mLet mFin mNp mNb mOuts mWant mFnd mTape mNum mNam mFst mBnm mW mUn mSl mKp mnNum mnNam mnBo mnBn)) (hy0 : vp_in (mW 8) 31) : Met l yX12_storyByte (ws_ yX12_storyByte cX12_storyByte 2 (some .int)) ({ frames := 3, cells := 0, slots := 0, locals := 68 }) (gPre D A [.ref (α (k)), .int i] w) (gQ D A (some (.int (f_X12_storyByte mOuts mWant mFnd mW i).1)) (fun w1 => Blk w1 k (cM D α k mTaped mErr mPpl mBts mUs mRa mSt mKi mWd mVal mLet mFin mNp mNb ((f_X12_storyByte mOuts mWant mFnd mW i).2.2.1) ((f_X12_storyByte mOuts mWant mFnd mW i).2.2.2) ((f_X12_storyByte mOuts mWant mFnd mW i).2.1) mTape mNum mNam mFst mBnm mW mUn mSl mKp mnNum mnNam mnBo mnBn) ∧ Same w w1 k 14)) 0 0 A := by
  refine g_met [(0, .ref (α (k))), (1, .int i)] (plainFor_of_name (by decide)) (Nat.le_of_ble_eq_true rfl) rfl (fun pg en s mi ar below me co ls S hK hP hD hE hS hr hlk hnm hl => ?_)
  have hF : Same w w k 14 := Same.rf
  refine lv_iload_n S.1 S.2.1 dX12_storyByte_0 rfl (lv_at hl 1 rfl) ?_
  refine lv_if_ge (tgt := 6) S.1 S.2.1 dX12_storyByte_1 (by decide) (fun (c1 : 0 ≤ i) => ?_) (fun (c1 : ¬ 0 ≤ i) => ?_)
  · refine lv_aload_n S.1 S.2.1 dX12_storyByte_6 rfl (lv_at hl 0 rfl) ?_
    refine lv_iload_n S.1 S.2.1 dX12_storyByte_7 rfl (lv_at hl 1 rfl) ?_
    have hNm : (f_X12_saysStory mW i) = (S_X12_storyByte_8 mW i) := rfl
    have hCon := (c_X12_saysStory l D A w α (k) mTaped mErr mPpl mBts mUs mRa mSt mKi mWd mVal mLet mFin mNp mNb mOuts mWant mFnd mTape mNum mNam mFst mBnm mW mUn mSl mKp mnNum mnNam mnBo mnBn i hB0 (by first | assumption | exact vin_d (by decide) | exact vp_in_nI (by omega) (by decide) | decide | omega))
    rw [hNm] at hCon
    refine g_aft0 (st1 := []) (g_V (As := [.int i]) (rest := []) S mi_X12_saysStory qw1931 hCon hK hP hD hE hS (hB0 0 _ rfl) rfl rfl rfl hl.1 (Nat.le_of_ble_eq_true rfl) rfl rfl ⟨(Nat.le_of_ble_eq_true rfl), (Nat.le_of_ble_eq_true rfl)⟩ ⟨(Nat.le_of_ble_eq_true rfl), (Nat.le_of_ble_eq_true rfl)⟩ dX12_storyByte_8) hS rfl (fun w1 H locs hQ hP hD hS => ?_)
    have hF := hF.trans hQ.2
    have hB0 : Blk w1 k (cM D α k mTaped mErr mPpl mBts mUs mRa mSt mKi mWd mVal mLet mFin mNp mNb ((S_X12_storyByte_8 mW i).2.1) ((S_X12_storyByte_8 mW i).2.2) ((S_X12_storyByte_8 mW i).1) mTape mNum mNam mFst mBnm mW mUn mSl mKp mnNum mnNam mnBo mnBn) := hQ.1
    refine lv_aload_n S.1 S.2.1 dX12_storyByte_11 rfl (lv_at hl 0 rfl) ?_
    refine g_get (v := .int ((S_X12_storyByte_8 mW i).1)) S hK hP (hB0 0 _ rfl) rfl inX12 29 (by decide) qw1403 rfl dX12_storyByte_12 ?_
    have hf : (f_X12_storyByte mOuts mWant mFnd mW i) = ((S_X12_storyByte_8 mW i).1, (S_X12_storyByte_8 mW i).1, (S_X12_storyByte_8 mW i).2.1, (S_X12_storyByte_8 mW i).2.2) := if_pos c1
    exact g_iret S hr hlk hP hD hS (by rw [hf] <;> rfl) (⟨by rw [hf]; dsimp only; exact hB0, hF⟩) dX12_storyByte_15
  · refine lv_iconst (v := (-1)) S.1 S.2.1 dX12_storyByte_4 (by decide) ?_
    have hf : (f_X12_storyByte mOuts mWant mFnd mW i) = ((-1), mFnd, mOuts, mWant) := if_neg c1
    exact g_iret S hr hlk hP hD hS (by rw [hf] <;> rfl) (⟨by rw [hf]; dsimp only; exact hB0, hF⟩) dX12_storyByte_5
noncomputable def S_X12_saysPair_2 (mOuts : Int32) (mWant : Int32) (mFnd : Int32) (x : Int64) : Int32 × Int32 := (f_X12_saysWord mOuts mWant mFnd x)
noncomputable def S_X12_saysPair_8 (mOuts : Int32) (mWant : Int32) (mFnd : Int32) (x : Int64) : Int32 × Int32 := (f_X12_says ((S_X12_saysPair_2 mOuts mWant mFnd x).2) mWant ((S_X12_saysPair_2 mOuts mWant mFnd x).1) 32)
noncomputable def S_X12_saysPair_13 (mOuts : Int32) (mWant : Int32) (mFnd : Int32) (x : Int64) (v : Int32) : Int32 × Int32 := (f_X12_saysNumber ((S_X12_saysPair_8 mOuts mWant mFnd x).2) mWant ((S_X12_saysPair_8 mOuts mWant mFnd x).1) v)
noncomputable def S_X12_saysPair_19 (mOuts : Int32) (mWant : Int32) (mFnd : Int32) (x : Int64) (v : Int32) (c : Int32) : Int32 × Int32 := (f_X12_says ((S_X12_saysPair_13 mOuts mWant mFnd x v).2) mWant ((S_X12_saysPair_13 mOuts mWant mFnd x v).1) c)
noncomputable def f_X12_saysPair (mOuts : Int32) (mWant : Int32) (mFnd : Int32) (x : Int64) (v : Int32) (c : Int32) : Int32 × Int32 := ((S_X12_saysPair_19 mOuts mWant mFnd x v c).1, (S_X12_saysPair_19 mOuts mWant mFnd x v c).2)
set_option maxHeartbeats 4000000 in
set_option maxRecDepth 100000 in
theorem c_X12_saysPair (l : Launch) (D : va_G) (A : Nat → Prop) (w : va_W) (α : Nat → Nat) (k : Nat) (mTaped : Int32) (mErr : Int32) (mPpl : Int32) (mBts : Int32) (mUs : Int32) (mRa : Int32) (mSt : Int32) (mKi : Int32) (mWd : Int64) (mVal : Int32) (mLet : Int32) (mFin : Int32) (mNp : Int32) (mNb : Int32) (mOuts : Int32) (mWant : Int32) (mFnd : Int32) (mTape : Nat → Int32) (mNum : Nat → Int32) (mNam : Nat → Int32) (mFst : Nat → Int32) (mBnm : Nat → Int32) (mW : Nat → Int32) (mUn : Nat → Int32) (mSl : Nat → Int32) (mKp : Nat → Int32) (mnNum : Nat → Int32) (mnNam : Nat → Int32) (mnBo : Nat → Int32) (mnBn : Nat → Int32) (x : Int64) (v : Int32) (c : Int32) (hB0 : Blk w k (cM D α k mTaped mErr mPpl mBts mUs mRa mSt mKi mWd mVal mLet mFin mNp mNb mOuts mWant mFnd mTape mNum mNam mFst mBnm mW mUn mSl mKp mnNum mnNam mnBo mnBn)) : Met l yX12_saysPair (ws_ yX12_saysPair cX12_saysPair 5 none) ({ frames := 2, cells := 0, slots := 0, locals := 45 }) (gPre D A [.ref (α (k)), .long x, .int v, .int c] w) (gQ D A none (fun w1 => Blk w1 k (cM D α k mTaped mErr mPpl mBts mUs mRa mSt mKi mWd mVal mLet mFin mNp mNb ((f_X12_saysPair mOuts mWant mFnd x v c).2) mWant ((f_X12_saysPair mOuts mWant mFnd x v c).1) mTape mNum mNam mFst mBnm mW mUn mSl mKp mnNum mnNam mnBo mnBn) ∧ Same w w1 k 14)) 0 0 A := by
  refine g_met [(0, .ref (α (k))), (1, .long x), (3, .int v), (4, .int c)] (plainFor_of_name (by decide)) (Nat.le_of_ble_eq_true rfl) rfl (fun pg en s mi ar below me co ls S hK hP hD hE hS hr hlk hnm hl => ?_)
  have hF : Same w w k 14 := Same.rf
  refine lv_aload_n S.1 S.2.1 dX12_saysPair_0 rfl (lv_at hl 0 rfl) ?_
  refine lv_lload_n S.1 S.2.1 dX12_saysPair_1 rfl (lv_at hl 1 rfl) ?_
  have hNm : (f_X12_saysWord mOuts mWant mFnd x) = (S_X12_saysPair_2 mOuts mWant mFnd x) := rfl
  have hCon := (c_X12_saysWord l D A w α (k) mTaped mErr mPpl mBts mUs mRa mSt mKi mWd mVal mLet mFin mNp mNb mOuts mWant mFnd mTape mNum mNam mFst mBnm mW mUn mSl mKp mnNum mnNam mnBo mnBn x hB0)
  rw [hNm] at hCon
  refine g_aft0 (st1 := []) (g_V (As := [.long x]) (rest := []) S mi_X12_saysWord qw1906 hCon hK hP hD hE hS (hB0 0 _ rfl) rfl rfl rfl hl.1 (Nat.le_of_ble_eq_true rfl) rfl rfl ⟨(Nat.le_of_ble_eq_true rfl), (Nat.le_of_ble_eq_true rfl)⟩ ⟨(Nat.le_of_ble_eq_true rfl), (Nat.le_of_ble_eq_true rfl)⟩ dX12_saysPair_2) hS rfl (fun w1 H locs hQ hP hD hS => ?_)
  have hF := hF.trans hQ.2
  have hB0 : Blk w1 k (cM D α k mTaped mErr mPpl mBts mUs mRa mSt mKi mWd mVal mLet mFin mNp mNb ((S_X12_saysPair_2 mOuts mWant mFnd x).2) mWant ((S_X12_saysPair_2 mOuts mWant mFnd x).1) mTape mNum mNam mFst mBnm mW mUn mSl mKp mnNum mnNam mnBo mnBn) := hQ.1
  refine lv_aload_n S.1 S.2.1 dX12_saysPair_5 rfl (lv_at hl 0 rfl) ?_
  refine lv_bipush (v := 32) S.1 S.2.1 dX12_saysPair_6 (by decide) ?_
  have hNm : (f_X12_says ((S_X12_saysPair_2 mOuts mWant mFnd x).2) mWant ((S_X12_saysPair_2 mOuts mWant mFnd x).1) 32) = (S_X12_saysPair_8 mOuts mWant mFnd x) := rfl
  have hCon := (c_X12_says l D A w1 α (k) mTaped mErr mPpl mBts mUs mRa mSt mKi mWd mVal mLet mFin mNp mNb ((S_X12_saysPair_2 mOuts mWant mFnd x).2) mWant ((S_X12_saysPair_2 mOuts mWant mFnd x).1) mTape mNum mNam mFst mBnm mW mUn mSl mKp mnNum mnNam mnBo mnBn 32 hB0)
  rw [hNm] at hCon
  refine g_aft0 (st1 := []) (g_V (As := [.int 32]) (rest := []) S mi_X12_says qw1911 hCon hK hP hD hE hS (hB0 0 _ rfl) rfl rfl rfl hl.1 (Nat.le_of_ble_eq_true rfl) rfl rfl ⟨(Nat.le_of_ble_eq_true rfl), (Nat.le_of_ble_eq_true rfl)⟩ ⟨(Nat.le_of_ble_eq_true rfl), (Nat.le_of_ble_eq_true rfl)⟩ dX12_saysPair_8) hS rfl (fun w2 H locs hQ hP hD hS => ?_)
  have hF := hF.trans hQ.2
  have hB0 : Blk w2 k (cM D α k mTaped mErr mPpl mBts mUs mRa mSt mKi mWd mVal mLet mFin mNp mNb ((S_X12_saysPair_8 mOuts mWant mFnd x).2) mWant ((S_X12_saysPair_8 mOuts mWant mFnd x).1) mTape mNum mNam mFst mBnm mW mUn mSl mKp mnNum mnNam mnBo mnBn) := hQ.1
  refine lv_aload_n S.1 S.2.1 dX12_saysPair_11 rfl (lv_at hl 0 rfl) ?_
  refine lv_iload_n S.1 S.2.1 dX12_saysPair_12 rfl (lv_at hl 2 rfl) ?_
  have hNm : (f_X12_saysNumber ((S_X12_saysPair_8 mOuts mWant mFnd x).2) mWant ((S_X12_saysPair_8 mOuts mWant mFnd x).1) v) = (S_X12_saysPair_13 mOuts mWant mFnd x v) := rfl
  have hCon := (c_X12_saysNumber l D A w2 α (k) mTaped mErr mPpl mBts mUs mRa mSt mKi mWd mVal mLet mFin mNp mNb ((S_X12_saysPair_8 mOuts mWant mFnd x).2) mWant ((S_X12_saysPair_8 mOuts mWant mFnd x).1) mTape mNum mNam mFst mBnm mW mUn mSl mKp mnNum mnNam mnBo mnBn v hB0)
  rw [hNm] at hCon
  refine g_aft0 (st1 := []) (g_V (As := [.int v]) (rest := []) S mi_X12_saysNumber qw1919 hCon hK hP hD hE hS (hB0 0 _ rfl) rfl rfl rfl hl.1 (Nat.le_of_ble_eq_true rfl) rfl rfl ⟨(Nat.le_of_ble_eq_true rfl), (Nat.le_of_ble_eq_true rfl)⟩ ⟨(Nat.le_of_ble_eq_true rfl), (Nat.le_of_ble_eq_true rfl)⟩ dX12_saysPair_13) hS rfl (fun w3 H locs hQ hP hD hS => ?_)
  have hF := hF.trans hQ.2
  have hB0 : Blk w3 k (cM D α k mTaped mErr mPpl mBts mUs mRa mSt mKi mWd mVal mLet mFin mNp mNb ((S_X12_saysPair_13 mOuts mWant mFnd x v).2) mWant ((S_X12_saysPair_13 mOuts mWant mFnd x v).1) mTape mNum mNam mFst mBnm mW mUn mSl mKp mnNum mnNam mnBo mnBn) := hQ.1
  refine lv_aload_n S.1 S.2.1 dX12_saysPair_16 rfl (lv_at hl 0 rfl) ?_
  refine lv_iload S.1 S.2.1 dX12_saysPair_17 (lv_at hl 3 rfl) ?_
  have hNm : (f_X12_says ((S_X12_saysPair_13 mOuts mWant mFnd x v).2) mWant ((S_X12_saysPair_13 mOuts mWant mFnd x v).1) c) = (S_X12_saysPair_19 mOuts mWant mFnd x v c) := rfl
  have hCon := (c_X12_says l D A w3 α (k) mTaped mErr mPpl mBts mUs mRa mSt mKi mWd mVal mLet mFin mNp mNb ((S_X12_saysPair_13 mOuts mWant mFnd x v).2) mWant ((S_X12_saysPair_13 mOuts mWant mFnd x v).1) mTape mNum mNam mFst mBnm mW mUn mSl mKp mnNum mnNam mnBo mnBn c hB0)
  rw [hNm] at hCon
  refine g_aft0 (st1 := []) (g_V (As := [.int c]) (rest := []) S mi_X12_says qw1911 hCon hK hP hD hE hS (hB0 0 _ rfl) rfl rfl rfl hl.1 (Nat.le_of_ble_eq_true rfl) rfl rfl ⟨(Nat.le_of_ble_eq_true rfl), (Nat.le_of_ble_eq_true rfl)⟩ ⟨(Nat.le_of_ble_eq_true rfl), (Nat.le_of_ble_eq_true rfl)⟩ dX12_saysPair_19) hS rfl (fun w4 H locs hQ hP hD hS => ?_)
  have hF := hF.trans hQ.2
  have hB0 : Blk w4 k (cM D α k mTaped mErr mPpl mBts mUs mRa mSt mKi mWd mVal mLet mFin mNp mNb ((S_X12_saysPair_19 mOuts mWant mFnd x v c).2) mWant ((S_X12_saysPair_19 mOuts mWant mFnd x v c).1) mTape mNum mNam mFst mBnm mW mUn mSl mKp mnNum mnNam mnBo mnBn) := hQ.1
  have hf : (f_X12_saysPair mOuts mWant mFnd x v c) = ((S_X12_saysPair_19 mOuts mWant mFnd x v c).1, (S_X12_saysPair_19 mOuts mWant mFnd x v c).2) := rfl
  exact g_vret S hr hlk hP hD hS (rfl) (⟨by rw [hf]; dsimp only; exact hB0, hF⟩) dX12_saysPair_22
noncomputable def S_X12_saysNumbers_12 (mOuts : Int32) (mWant : Int32) (mFnd : Int32) (mNum : Nat → Int32) : Int32 × Int32 := (f_X12_saysPair mOuts mWant mFnd 642829806 (mNum 0) 32)
noncomputable def S_X12_saysNumbers_19 (mOuts : Int32) (mWant : Int32) (mFnd : Int32) (mNum : Nat → Int32) : Int32 × Int32 := (f_X12_saysWord ((S_X12_saysNumbers_12 mOuts mWant mFnd mNum).2) mWant ((S_X12_saysNumbers_12 mOuts mWant mFnd mNum).1) 645974195)
noncomputable def S_X12_saysNumbers_32 (mOuts : Int32) (mWant : Int32) (mFnd : Int32) (mNum : Nat → Int32) (n : Nat) (sn : Int32 × Int32) : Int32 × Int32 := (f_X12_says (sn.2) mWant (sn.1) 32)
noncomputable def S_X12_saysNumbers_44 (mOuts : Int32) (mWant : Int32) (mFnd : Int32) (mNum : Nat → Int32) (n : Nat) (sn : Int32 × Int32) : Int32 × Int32 := (f_X12_saysNumber ((S_X12_saysNumbers_32 mOuts mWant mFnd mNum n sn).2) mWant ((S_X12_saysNumbers_32 mOuts mWant mFnd mNum n sn).1) (mNum (1 + (nI n)).toNatClampNeg))
noncomputable def G_X12_saysNumbers_24 (mOuts : Int32) (mWant : Int32) (mFnd : Int32) (mNum : Nat → Int32) (n : Nat) (sn : Int32 × Int32) : Int32 × Int32 := ((S_X12_saysNumbers_44 mOuts mWant mFnd mNum n sn).1, (S_X12_saysNumbers_44 mOuts mWant mFnd mNum n sn).2)
noncomputable def L_X12_saysNumbers_24 (mOuts : Int32) (mWant : Int32) (mFnd : Int32) (mNum : Nat → Int32) : Nat → Int32 × Int32 := iter_ (G_X12_saysNumbers_24 mOuts mWant mFnd mNum) ((S_X12_saysNumbers_19 mOuts mWant mFnd mNum).1, (S_X12_saysNumbers_19 mOuts mWant mFnd mNum).2)
noncomputable def S_X12_saysNumbers_56 (mOuts : Int32) (mWant : Int32) (mFnd : Int32) (mNum : Nat → Int32) : Int32 × Int32 := (f_X12_says ((L_X12_saysNumbers_24 mOuts mWant mFnd mNum 4).2) mWant ((L_X12_saysNumbers_24 mOuts mWant mFnd mNum 4).1) 32)
noncomputable def S_X12_saysNumbers_71 (mOuts : Int32) (mWant : Int32) (mFnd : Int32) (mNum : Nat → Int32) : Int32 × Int32 := (f_X12_saysPair ((S_X12_saysNumbers_56 mOuts mWant mFnd mNum).2) mWant ((S_X12_saysNumbers_56 mOuts mWant mFnd mNum).1) 398963 (mNum 5) 32)
noncomputable def S_X12_saysNumbers_87 (mOuts : Int32) (mWant : Int32) (mFnd : Int32) (mNum : Nat → Int32) : Int32 × Int32 := (f_X12_saysPair ((S_X12_saysNumbers_71 mOuts mWant mFnd mNum).2) mWant ((S_X12_saysNumbers_71 mOuts mWant mFnd mNum).1) 12748404 (mNum 6) 32)
noncomputable def S_X12_saysNumbers_103 (mOuts : Int32) (mWant : Int32) (mFnd : Int32) (mNum : Nat → Int32) : Int32 × Int32 := (f_X12_saysPair ((S_X12_saysNumbers_87 mOuts mWant mFnd mNum).2) mWant ((S_X12_saysNumbers_87 mOuts mWant mFnd mNum).1) 3197529 (mNum 7) 32)
noncomputable def S_X12_saysNumbers_119 (mOuts : Int32) (mWant : Int32) (mFnd : Int32) (mNum : Nat → Int32) : Int32 × Int32 := (f_X12_saysPair ((S_X12_saysNumbers_103 mOuts mWant mFnd mNum).2) mWant ((S_X12_saysNumbers_103 mOuts mWant mFnd mNum).1) 50861100 (mNum 8) 32)
noncomputable def S_X12_saysNumbers_135 (mOuts : Int32) (mWant : Int32) (mFnd : Int32) (mNum : Nat → Int32) : Int32 × Int32 := (f_X12_saysPair ((S_X12_saysNumbers_119 mOuts mWant mFnd mNum).2) mWant ((S_X12_saysNumbers_119 mOuts mWant mFnd mNum).1) 623961094803 (mNum 9) 59)
noncomputable def f_X12_saysNumbers (mOuts : Int32) (mWant : Int32) (mFnd : Int32) (mNum : Nat → Int32) : Int32 × Int32 := ((S_X12_saysNumbers_135 mOuts mWant mFnd mNum).1, (S_X12_saysNumbers_135 mOuts mWant mFnd mNum).2)
theorem add1_in {n : Nat} (h : n < 4) : vp_in (1 + nI n) 10 := by
  rw [show (1 : Int32) = nI 1 from rfl, nI_add]
  exact vp_in_nI (by omega) (by decide)
set_option maxHeartbeats 4000000 in
set_option maxRecDepth 100000 in
theorem c_X12_saysNumbers (l : Launch) (D : va_G) (A : Nat → Prop) (w : va_W) (α : Nat → Nat) (k : Nat) (mTaped : Int32) (mErr : Int32) (mPpl : Int32) (mBts : Int32) (mUs : Int32) (mRa : Int32) (mSt : Int32) (mKi : Int32) (mWd : Int64) (mVal : Int32) (mLet : Int32) (mFin : Int32) (mNp : Int32) (mNb : Int32) (mOuts : Int32) (mWant : Int32) (mFnd : Int32) (mTape : Nat → Int32) (mNum : Nat → Int32) (mNam : Nat → Int32) (mFst : Nat → Int32) (mBnm : Nat → Int32) (mW : Nat → Int32) (mUn : Nat → Int32) (mSl : Nat → Int32) (mKp : Nat → Int32) (mnNum : Nat → Int32) (mnNam : Nat → Int32) (mnBo : Nat → Int32) (mnBn : Nat → Int32) (hB0 : Blk w k (cM D α k mTaped mErr mPpl mBts mUs mRa mSt mKi mWd mVal mLet mFin mNp mNb mOuts mWant mFnd mTape mNum mNam mFst mBnm mW mUn mSl mKp mnNum mnNam mnBo mnBn)) : Met l yX12_saysNumbers (ws_ yX12_saysNumbers cX12_saysNumbers 2 none) ({ frames := 3, cells := 0, slots := 0, locals := 69 }) (gPre D A [.ref (α (k))] w) (gQ D A none (fun w1 => Blk w1 k (cM D α k mTaped mErr mPpl mBts mUs mRa mSt mKi mWd mVal mLet mFin mNp mNb ((f_X12_saysNumbers mOuts mWant mFnd mNum).2) mWant ((f_X12_saysNumbers mOuts mWant mFnd mNum).1) mTape mNum mNam mFst mBnm mW mUn mSl mKp mnNum mnNam mnBo mnBn) ∧ Same w w1 k 14)) 0 0 A := by
  refine g_met [(0, .ref (α (k)))] (plainFor_of_name (by decide)) (Nat.le_of_ble_eq_true rfl) rfl (fun pg en s mi ar below me co ls S hK hP hD hE hS hr hlk hnm hl => ?_)
  have hF : Same w w k 14 := Same.rf
  refine lv_aload_n S.1 S.2.1 dX12_saysNumbers_0 rfl (lv_at hl 0 rfl) ?_
  refine lv_ldc2 (v := 642829806) S.1 S.2.1 S.2.2.2.1 (S.2.2.2.2 _ qw1504) dX12_saysNumbers_1 ?_
  refine lv_aload_n S.1 S.2.1 dX12_saysNumbers_4 rfl (lv_at hl 0 rfl) ?_
  refine g_get (v := .ref (α (k + 2))) S hK hP (hB0 0 _ rfl) rfl inX12 3 (by decide) qw1377 rfl dX12_saysNumbers_5 ?_
  refine lv_iconst (v := 0) S.1 S.2.1 dX12_saysNumbers_8 (by decide) ?_
  refine g_iald S hK hP (hB0 2 _ rfl) (by first | assumption | exact vin_d (by decide) | exact vp_in_nI (by omega) (by decide) | decide) dX12_saysNumbers_9 ?_
  refine lv_bipush (v := 32) S.1 S.2.1 dX12_saysNumbers_10 (by decide) ?_
  have hNm : (f_X12_saysPair mOuts mWant mFnd 642829806 (mNum 0) 32) = (S_X12_saysNumbers_12 mOuts mWant mFnd mNum) := rfl
  have hCon := (c_X12_saysPair l D A w α (k) mTaped mErr mPpl mBts mUs mRa mSt mKi mWd mVal mLet mFin mNp mNb mOuts mWant mFnd mTape mNum mNam mFst mBnm mW mUn mSl mKp mnNum mnNam mnBo mnBn 642829806 (mNum 0) 32 hB0)
  rw [hNm] at hCon
  refine g_aft0 (st1 := []) (g_V (As := [.long 642829806, .int (mNum 0), .int 32]) (rest := []) S mi_X12_saysPair qw1960 hCon hK hP hD hE hS (hB0 0 _ rfl) rfl rfl rfl hl.1 (Nat.le_of_ble_eq_true rfl) rfl rfl ⟨(Nat.le_of_ble_eq_true rfl), (Nat.le_of_ble_eq_true rfl)⟩ ⟨(Nat.le_of_ble_eq_true rfl), (Nat.le_of_ble_eq_true rfl)⟩ dX12_saysNumbers_12) hS rfl (fun w1 H locs hQ hP hD hS => ?_)
  have hF := hF.trans hQ.2
  have hB0 : Blk w1 k (cM D α k mTaped mErr mPpl mBts mUs mRa mSt mKi mWd mVal mLet mFin mNp mNb ((S_X12_saysNumbers_12 mOuts mWant mFnd mNum).2) mWant ((S_X12_saysNumbers_12 mOuts mWant mFnd mNum).1) mTape mNum mNam mFst mBnm mW mUn mSl mKp mnNum mnNam mnBo mnBn) := hQ.1
  refine lv_aload_n S.1 S.2.1 dX12_saysNumbers_15 rfl (lv_at hl 0 rfl) ?_
  refine lv_ldc2 (v := 645974195) S.1 S.2.1 S.2.2.2.1 (S.2.2.2.2 _ qw1505) dX12_saysNumbers_16 ?_
  have hNm : (f_X12_saysWord ((S_X12_saysNumbers_12 mOuts mWant mFnd mNum).2) mWant ((S_X12_saysNumbers_12 mOuts mWant mFnd mNum).1) 645974195) = (S_X12_saysNumbers_19 mOuts mWant mFnd mNum) := rfl
  have hCon := (c_X12_saysWord l D A w1 α (k) mTaped mErr mPpl mBts mUs mRa mSt mKi mWd mVal mLet mFin mNp mNb ((S_X12_saysNumbers_12 mOuts mWant mFnd mNum).2) mWant ((S_X12_saysNumbers_12 mOuts mWant mFnd mNum).1) mTape mNum mNam mFst mBnm mW mUn mSl mKp mnNum mnNam mnBo mnBn 645974195 hB0)
  rw [hNm] at hCon
  refine g_aft0 (st1 := []) (g_V (As := [.long 645974195]) (rest := []) S mi_X12_saysWord qw1906 hCon hK hP hD hE hS (hB0 0 _ rfl) rfl rfl rfl hl.1 (Nat.le_of_ble_eq_true rfl) rfl rfl ⟨(Nat.le_of_ble_eq_true rfl), (Nat.le_of_ble_eq_true rfl)⟩ ⟨(Nat.le_of_ble_eq_true rfl), (Nat.le_of_ble_eq_true rfl)⟩ dX12_saysNumbers_19) hS rfl (fun w2 H locs hQ hP hD hS => ?_)
  have hF := hF.trans hQ.2
  have hB0 : Blk w2 k (cM D α k mTaped mErr mPpl mBts mUs mRa mSt mKi mWd mVal mLet mFin mNp mNb ((S_X12_saysNumbers_19 mOuts mWant mFnd mNum).2) mWant ((S_X12_saysNumbers_19 mOuts mWant mFnd mNum).1) mTape mNum mNam mFst mBnm mW mUn mSl mKp mnNum mnNam mnBo mnBn) := hQ.1
  refine lv_iconst (v := 0) S.1 S.2.1 dX12_saysNumbers_22 (by decide) ?_
  refine lv_istore_n (lv' := [(1, .int 0), (0, .ref (α (k)))]) S.1 S.2.1 dX12_saysNumbers_23 rfl hl (by decide) rfl (fun ls hl => ?_)
  have lp24 : ∀ (j n : Nat), n + j = 4 → ∀ (wl : va_W) (H : Heap) (locs : List Loc) (ls : Array Slot), va_P D vwCl wl H → va_D A wl → va_S A s.heap H locs → Same w wl k 14 → Blk wl k (cM D α k mTaped mErr mPpl mBts mUs mRa mSt mKi mWd mVal mLet mFin mNp mNb ((L_X12_saysNumbers_24 mOuts mWant mFnd mNum n).2) mWant ((L_X12_saysNumbers_24 mOuts mWant mFnd mNum n).1) mTape mNum mNam mFst mBnm mW mUn mSl mKp mnNum mnNam mnBo mnBn) → lv_has ls 2 [(1, .int (nI n)), (0, .ref (α (k)))] → W pg l en ({ frames := 3, cells := 0, slots := 0, locals := 69 } : Room) s mi ar below me co H locs 0 0 (MQ below (gQ D A none (fun w1 => Blk w1 k (cM D α k mTaped mErr mPpl mBts mUs mRa mSt mKi mWd mVal mLet mFin mNp mNb ((f_X12_saysNumbers mOuts mWant mFnd mNum).2) mWant ((f_X12_saysNumbers mOuts mWant mFnd mNum).1) mTape mNum mNam mFst mBnm mW mUn mSl mKp mnNum mnNam mnBo mnBn) ∧ Same w w1 k 14)) ar s 0 0 A) (F0 mi 24 ls []) := by
    intro j
    induction j with
    | zero =>
      intro n hn wl H locs ls hP hD hS hF hB0 hl
      have hn : 4 = n := hn.symm
      subst hn
      refine lv_iload_n S.1 S.2.1 dX12_saysNumbers_24 rfl (lv_at hl 0 rfl) ?_
      refine lv_iconst (v := 4) S.1 S.2.1 dX12_saysNumbers_25 (by decide) ?_
      refine lv_icmp_ge (tgt := 53) S.1 S.2.1 dX12_saysNumbers_26 (by decide) (fun (c1 : 4 ≤ (nI 4)) => ?_) (fun (c1 : ¬ 4 ≤ (nI 4)) => absurd c1 (lp_out (s := 0) (by decide)))
      refine lv_aload_n S.1 S.2.1 dX12_saysNumbers_53 rfl (lv_at hl 1 rfl) ?_
      refine lv_bipush (v := 32) S.1 S.2.1 dX12_saysNumbers_54 (by decide) ?_
      have hNm : (f_X12_says ((L_X12_saysNumbers_24 mOuts mWant mFnd mNum 4).2) mWant ((L_X12_saysNumbers_24 mOuts mWant mFnd mNum 4).1) 32) = (S_X12_saysNumbers_56 mOuts mWant mFnd mNum) := rfl
      have hCon := (c_X12_says l D A wl α (k) mTaped mErr mPpl mBts mUs mRa mSt mKi mWd mVal mLet mFin mNp mNb ((L_X12_saysNumbers_24 mOuts mWant mFnd mNum 4).2) mWant ((L_X12_saysNumbers_24 mOuts mWant mFnd mNum 4).1) mTape mNum mNam mFst mBnm mW mUn mSl mKp mnNum mnNam mnBo mnBn 32 hB0)
      rw [hNm] at hCon
      refine g_aft0 (st1 := []) (g_V (As := [.int 32]) (rest := []) S mi_X12_says qw1911 hCon hK hP hD hE hS (hB0 0 _ rfl) rfl rfl rfl hl.1 (Nat.le_of_ble_eq_true rfl) rfl rfl ⟨(Nat.le_of_ble_eq_true rfl), (Nat.le_of_ble_eq_true rfl)⟩ ⟨(Nat.le_of_ble_eq_true rfl), (Nat.le_of_ble_eq_true rfl)⟩ dX12_saysNumbers_56) hS rfl (fun w3 H locs hQ hP hD hS => ?_)
      have hF := hF.trans hQ.2
      have hB0 : Blk w3 k (cM D α k mTaped mErr mPpl mBts mUs mRa mSt mKi mWd mVal mLet mFin mNp mNb ((S_X12_saysNumbers_56 mOuts mWant mFnd mNum).2) mWant ((S_X12_saysNumbers_56 mOuts mWant mFnd mNum).1) mTape mNum mNam mFst mBnm mW mUn mSl mKp mnNum mnNam mnBo mnBn) := hQ.1
      refine lv_aload_n S.1 S.2.1 dX12_saysNumbers_59 rfl (lv_at hl 1 rfl) ?_
      refine lv_ldc2 (v := 398963) S.1 S.2.1 S.2.2.2.1 (S.2.2.2.2 _ qw1506) dX12_saysNumbers_60 ?_
      refine lv_aload_n S.1 S.2.1 dX12_saysNumbers_63 rfl (lv_at hl 1 rfl) ?_
      refine g_get (v := .ref (α (k + 2))) S hK hP (hB0 0 _ rfl) rfl inX12 3 (by decide) qw1377 rfl dX12_saysNumbers_64 ?_
      refine lv_iconst (v := 5) S.1 S.2.1 dX12_saysNumbers_67 (by decide) ?_
      refine g_iald S hK hP (hB0 2 _ rfl) (by first | assumption | exact vin_d (by decide) | exact vp_in_nI (by omega) (by decide) | decide) dX12_saysNumbers_68 ?_
      refine lv_bipush (v := 32) S.1 S.2.1 dX12_saysNumbers_69 (by decide) ?_
      have hNm : (f_X12_saysPair ((S_X12_saysNumbers_56 mOuts mWant mFnd mNum).2) mWant ((S_X12_saysNumbers_56 mOuts mWant mFnd mNum).1) 398963 (mNum 5) 32) = (S_X12_saysNumbers_71 mOuts mWant mFnd mNum) := rfl
      have hCon := (c_X12_saysPair l D A w3 α (k) mTaped mErr mPpl mBts mUs mRa mSt mKi mWd mVal mLet mFin mNp mNb ((S_X12_saysNumbers_56 mOuts mWant mFnd mNum).2) mWant ((S_X12_saysNumbers_56 mOuts mWant mFnd mNum).1) mTape mNum mNam mFst mBnm mW mUn mSl mKp mnNum mnNam mnBo mnBn 398963 (mNum 5) 32 hB0)
      rw [hNm] at hCon
      refine g_aft0 (st1 := []) (g_V (As := [.long 398963, .int (mNum 5), .int 32]) (rest := []) S mi_X12_saysPair qw1960 hCon hK hP hD hE hS (hB0 0 _ rfl) rfl rfl rfl hl.1 (Nat.le_of_ble_eq_true rfl) rfl rfl ⟨(Nat.le_of_ble_eq_true rfl), (Nat.le_of_ble_eq_true rfl)⟩ ⟨(Nat.le_of_ble_eq_true rfl), (Nat.le_of_ble_eq_true rfl)⟩ dX12_saysNumbers_71) hS rfl (fun w4 H locs hQ hP hD hS => ?_)
      have hF := hF.trans hQ.2
      have hB0 : Blk w4 k (cM D α k mTaped mErr mPpl mBts mUs mRa mSt mKi mWd mVal mLet mFin mNp mNb ((S_X12_saysNumbers_71 mOuts mWant mFnd mNum).2) mWant ((S_X12_saysNumbers_71 mOuts mWant mFnd mNum).1) mTape mNum mNam mFst mBnm mW mUn mSl mKp mnNum mnNam mnBo mnBn) := hQ.1
      refine lv_aload_n S.1 S.2.1 dX12_saysNumbers_74 rfl (lv_at hl 1 rfl) ?_
      refine lv_ldc2 (v := 12748404) S.1 S.2.1 S.2.2.2.1 (S.2.2.2.2 _ qw1507) dX12_saysNumbers_75 ?_
      refine lv_aload_n S.1 S.2.1 dX12_saysNumbers_78 rfl (lv_at hl 1 rfl) ?_
      refine g_get (v := .ref (α (k + 2))) S hK hP (hB0 0 _ rfl) rfl inX12 3 (by decide) qw1377 rfl dX12_saysNumbers_79 ?_
      refine lv_bipush (v := 6) S.1 S.2.1 dX12_saysNumbers_82 (by decide) ?_
      refine g_iald S hK hP (hB0 2 _ rfl) (by first | assumption | exact vin_d (by decide) | exact vp_in_nI (by omega) (by decide) | decide) dX12_saysNumbers_84 ?_
      refine lv_bipush (v := 32) S.1 S.2.1 dX12_saysNumbers_85 (by decide) ?_
      have hNm : (f_X12_saysPair ((S_X12_saysNumbers_71 mOuts mWant mFnd mNum).2) mWant ((S_X12_saysNumbers_71 mOuts mWant mFnd mNum).1) 12748404 (mNum 6) 32) = (S_X12_saysNumbers_87 mOuts mWant mFnd mNum) := rfl
      have hCon := (c_X12_saysPair l D A w4 α (k) mTaped mErr mPpl mBts mUs mRa mSt mKi mWd mVal mLet mFin mNp mNb ((S_X12_saysNumbers_71 mOuts mWant mFnd mNum).2) mWant ((S_X12_saysNumbers_71 mOuts mWant mFnd mNum).1) mTape mNum mNam mFst mBnm mW mUn mSl mKp mnNum mnNam mnBo mnBn 12748404 (mNum 6) 32 hB0)
      rw [hNm] at hCon
      refine g_aft0 (st1 := []) (g_V (As := [.long 12748404, .int (mNum 6), .int 32]) (rest := []) S mi_X12_saysPair qw1960 hCon hK hP hD hE hS (hB0 0 _ rfl) rfl rfl rfl hl.1 (Nat.le_of_ble_eq_true rfl) rfl rfl ⟨(Nat.le_of_ble_eq_true rfl), (Nat.le_of_ble_eq_true rfl)⟩ ⟨(Nat.le_of_ble_eq_true rfl), (Nat.le_of_ble_eq_true rfl)⟩ dX12_saysNumbers_87) hS rfl (fun w5 H locs hQ hP hD hS => ?_)
      have hF := hF.trans hQ.2
      have hB0 : Blk w5 k (cM D α k mTaped mErr mPpl mBts mUs mRa mSt mKi mWd mVal mLet mFin mNp mNb ((S_X12_saysNumbers_87 mOuts mWant mFnd mNum).2) mWant ((S_X12_saysNumbers_87 mOuts mWant mFnd mNum).1) mTape mNum mNam mFst mBnm mW mUn mSl mKp mnNum mnNam mnBo mnBn) := hQ.1
      refine lv_aload_n S.1 S.2.1 dX12_saysNumbers_90 rfl (lv_at hl 1 rfl) ?_
      refine lv_ldc2 (v := 3197529) S.1 S.2.1 S.2.2.2.1 (S.2.2.2.2 _ qw1508) dX12_saysNumbers_91 ?_
      refine lv_aload_n S.1 S.2.1 dX12_saysNumbers_94 rfl (lv_at hl 1 rfl) ?_
      refine g_get (v := .ref (α (k + 2))) S hK hP (hB0 0 _ rfl) rfl inX12 3 (by decide) qw1377 rfl dX12_saysNumbers_95 ?_
      refine lv_bipush (v := 7) S.1 S.2.1 dX12_saysNumbers_98 (by decide) ?_
      refine g_iald S hK hP (hB0 2 _ rfl) (by first | assumption | exact vin_d (by decide) | exact vp_in_nI (by omega) (by decide) | decide) dX12_saysNumbers_100 ?_
      refine lv_bipush (v := 32) S.1 S.2.1 dX12_saysNumbers_101 (by decide) ?_
      have hNm : (f_X12_saysPair ((S_X12_saysNumbers_87 mOuts mWant mFnd mNum).2) mWant ((S_X12_saysNumbers_87 mOuts mWant mFnd mNum).1) 3197529 (mNum 7) 32) = (S_X12_saysNumbers_103 mOuts mWant mFnd mNum) := rfl
      have hCon := (c_X12_saysPair l D A w5 α (k) mTaped mErr mPpl mBts mUs mRa mSt mKi mWd mVal mLet mFin mNp mNb ((S_X12_saysNumbers_87 mOuts mWant mFnd mNum).2) mWant ((S_X12_saysNumbers_87 mOuts mWant mFnd mNum).1) mTape mNum mNam mFst mBnm mW mUn mSl mKp mnNum mnNam mnBo mnBn 3197529 (mNum 7) 32 hB0)
      rw [hNm] at hCon
      refine g_aft0 (st1 := []) (g_V (As := [.long 3197529, .int (mNum 7), .int 32]) (rest := []) S mi_X12_saysPair qw1960 hCon hK hP hD hE hS (hB0 0 _ rfl) rfl rfl rfl hl.1 (Nat.le_of_ble_eq_true rfl) rfl rfl ⟨(Nat.le_of_ble_eq_true rfl), (Nat.le_of_ble_eq_true rfl)⟩ ⟨(Nat.le_of_ble_eq_true rfl), (Nat.le_of_ble_eq_true rfl)⟩ dX12_saysNumbers_103) hS rfl (fun w6 H locs hQ hP hD hS => ?_)
      have hF := hF.trans hQ.2
      have hB0 : Blk w6 k (cM D α k mTaped mErr mPpl mBts mUs mRa mSt mKi mWd mVal mLet mFin mNp mNb ((S_X12_saysNumbers_103 mOuts mWant mFnd mNum).2) mWant ((S_X12_saysNumbers_103 mOuts mWant mFnd mNum).1) mTape mNum mNam mFst mBnm mW mUn mSl mKp mnNum mnNam mnBo mnBn) := hQ.1
      refine lv_aload_n S.1 S.2.1 dX12_saysNumbers_106 rfl (lv_at hl 1 rfl) ?_
      refine lv_ldc2 (v := 50861100) S.1 S.2.1 S.2.2.2.1 (S.2.2.2.2 _ qw1509) dX12_saysNumbers_107 ?_
      refine lv_aload_n S.1 S.2.1 dX12_saysNumbers_110 rfl (lv_at hl 1 rfl) ?_
      refine g_get (v := .ref (α (k + 2))) S hK hP (hB0 0 _ rfl) rfl inX12 3 (by decide) qw1377 rfl dX12_saysNumbers_111 ?_
      refine lv_bipush (v := 8) S.1 S.2.1 dX12_saysNumbers_114 (by decide) ?_
      refine g_iald S hK hP (hB0 2 _ rfl) (by first | assumption | exact vin_d (by decide) | exact vp_in_nI (by omega) (by decide) | decide) dX12_saysNumbers_116 ?_
      refine lv_bipush (v := 32) S.1 S.2.1 dX12_saysNumbers_117 (by decide) ?_
      have hNm : (f_X12_saysPair ((S_X12_saysNumbers_103 mOuts mWant mFnd mNum).2) mWant ((S_X12_saysNumbers_103 mOuts mWant mFnd mNum).1) 50861100 (mNum 8) 32) = (S_X12_saysNumbers_119 mOuts mWant mFnd mNum) := rfl
      have hCon := (c_X12_saysPair l D A w6 α (k) mTaped mErr mPpl mBts mUs mRa mSt mKi mWd mVal mLet mFin mNp mNb ((S_X12_saysNumbers_103 mOuts mWant mFnd mNum).2) mWant ((S_X12_saysNumbers_103 mOuts mWant mFnd mNum).1) mTape mNum mNam mFst mBnm mW mUn mSl mKp mnNum mnNam mnBo mnBn 50861100 (mNum 8) 32 hB0)
      rw [hNm] at hCon
      refine g_aft0 (st1 := []) (g_V (As := [.long 50861100, .int (mNum 8), .int 32]) (rest := []) S mi_X12_saysPair qw1960 hCon hK hP hD hE hS (hB0 0 _ rfl) rfl rfl rfl hl.1 (Nat.le_of_ble_eq_true rfl) rfl rfl ⟨(Nat.le_of_ble_eq_true rfl), (Nat.le_of_ble_eq_true rfl)⟩ ⟨(Nat.le_of_ble_eq_true rfl), (Nat.le_of_ble_eq_true rfl)⟩ dX12_saysNumbers_119) hS rfl (fun w7 H locs hQ hP hD hS => ?_)
      have hF := hF.trans hQ.2
      have hB0 : Blk w7 k (cM D α k mTaped mErr mPpl mBts mUs mRa mSt mKi mWd mVal mLet mFin mNp mNb ((S_X12_saysNumbers_119 mOuts mWant mFnd mNum).2) mWant ((S_X12_saysNumbers_119 mOuts mWant mFnd mNum).1) mTape mNum mNam mFst mBnm mW mUn mSl mKp mnNum mnNam mnBo mnBn) := hQ.1
      refine lv_aload_n S.1 S.2.1 dX12_saysNumbers_122 rfl (lv_at hl 1 rfl) ?_
      refine lv_ldc2 (v := 623961094803) S.1 S.2.1 S.2.2.2.1 (S.2.2.2.2 _ qw1510) dX12_saysNumbers_123 ?_
      refine lv_aload_n S.1 S.2.1 dX12_saysNumbers_126 rfl (lv_at hl 1 rfl) ?_
      refine g_get (v := .ref (α (k + 2))) S hK hP (hB0 0 _ rfl) rfl inX12 3 (by decide) qw1377 rfl dX12_saysNumbers_127 ?_
      refine lv_bipush (v := 9) S.1 S.2.1 dX12_saysNumbers_130 (by decide) ?_
      refine g_iald S hK hP (hB0 2 _ rfl) (by first | assumption | exact vin_d (by decide) | exact vp_in_nI (by omega) (by decide) | decide) dX12_saysNumbers_132 ?_
      refine lv_bipush (v := 59) S.1 S.2.1 dX12_saysNumbers_133 (by decide) ?_
      have hNm : (f_X12_saysPair ((S_X12_saysNumbers_119 mOuts mWant mFnd mNum).2) mWant ((S_X12_saysNumbers_119 mOuts mWant mFnd mNum).1) 623961094803 (mNum 9) 59) = (S_X12_saysNumbers_135 mOuts mWant mFnd mNum) := rfl
      have hCon := (c_X12_saysPair l D A w7 α (k) mTaped mErr mPpl mBts mUs mRa mSt mKi mWd mVal mLet mFin mNp mNb ((S_X12_saysNumbers_119 mOuts mWant mFnd mNum).2) mWant ((S_X12_saysNumbers_119 mOuts mWant mFnd mNum).1) mTape mNum mNam mFst mBnm mW mUn mSl mKp mnNum mnNam mnBo mnBn 623961094803 (mNum 9) 59 hB0)
      rw [hNm] at hCon
      refine g_aft0 (st1 := []) (g_V (As := [.long 623961094803, .int (mNum 9), .int 59]) (rest := []) S mi_X12_saysPair qw1960 hCon hK hP hD hE hS (hB0 0 _ rfl) rfl rfl rfl hl.1 (Nat.le_of_ble_eq_true rfl) rfl rfl ⟨(Nat.le_of_ble_eq_true rfl), (Nat.le_of_ble_eq_true rfl)⟩ ⟨(Nat.le_of_ble_eq_true rfl), (Nat.le_of_ble_eq_true rfl)⟩ dX12_saysNumbers_135) hS rfl (fun w8 H locs hQ hP hD hS => ?_)
      have hF := hF.trans hQ.2
      have hB0 : Blk w8 k (cM D α k mTaped mErr mPpl mBts mUs mRa mSt mKi mWd mVal mLet mFin mNp mNb ((S_X12_saysNumbers_135 mOuts mWant mFnd mNum).2) mWant ((S_X12_saysNumbers_135 mOuts mWant mFnd mNum).1) mTape mNum mNam mFst mBnm mW mUn mSl mKp mnNum mnNam mnBo mnBn) := hQ.1
      have hf : (f_X12_saysNumbers mOuts mWant mFnd mNum) = ((S_X12_saysNumbers_135 mOuts mWant mFnd mNum).1, (S_X12_saysNumbers_135 mOuts mWant mFnd mNum).2) := rfl
      exact g_vret S hr hlk hP hD hS (rfl) (⟨by rw [hf]; dsimp only; exact hB0, hF⟩) dX12_saysNumbers_138
    | succ j ih =>
      intro n hn wl H locs ls hP hD hS hF hB0 hl
      refine lv_iload_n S.1 S.2.1 dX12_saysNumbers_24 rfl (lv_at hl 0 rfl) ?_
      refine lv_iconst (v := 4) S.1 S.2.1 dX12_saysNumbers_25 (by decide) ?_
      refine lv_icmp_ge (tgt := 53) S.1 S.2.1 dX12_saysNumbers_26 (by decide) (fun (c2 : 4 ≤ (nI n)) => absurd c2 (lp_in (s := 0) (by decide) hn)) (fun (c2 : ¬ 4 ≤ (nI n)) => ?_)
      refine lv_aload_n S.1 S.2.1 dX12_saysNumbers_29 rfl (lv_at hl 1 rfl) ?_
      refine lv_bipush (v := 32) S.1 S.2.1 dX12_saysNumbers_30 (by decide) ?_
      have hNm : (f_X12_says ((L_X12_saysNumbers_24 mOuts mWant mFnd mNum n).2) mWant ((L_X12_saysNumbers_24 mOuts mWant mFnd mNum n).1) 32) = (S_X12_saysNumbers_32 mOuts mWant mFnd mNum n (L_X12_saysNumbers_24 mOuts mWant mFnd mNum n)) := rfl
      have hCon := (c_X12_says l D A wl α (k) mTaped mErr mPpl mBts mUs mRa mSt mKi mWd mVal mLet mFin mNp mNb ((L_X12_saysNumbers_24 mOuts mWant mFnd mNum n).2) mWant ((L_X12_saysNumbers_24 mOuts mWant mFnd mNum n).1) mTape mNum mNam mFst mBnm mW mUn mSl mKp mnNum mnNam mnBo mnBn 32 hB0)
      rw [hNm] at hCon
      refine g_aft0 (st1 := []) (g_V (As := [.int 32]) (rest := []) S mi_X12_says qw1911 hCon hK hP hD hE hS (hB0 0 _ rfl) rfl rfl rfl hl.1 (Nat.le_of_ble_eq_true rfl) rfl rfl ⟨(Nat.le_of_ble_eq_true rfl), (Nat.le_of_ble_eq_true rfl)⟩ ⟨(Nat.le_of_ble_eq_true rfl), (Nat.le_of_ble_eq_true rfl)⟩ dX12_saysNumbers_32) hS rfl (fun w9 H locs hQ hP hD hS => ?_)
      have hF := hF.trans hQ.2
      have hB0 : Blk w9 k (cM D α k mTaped mErr mPpl mBts mUs mRa mSt mKi mWd mVal mLet mFin mNp mNb ((S_X12_saysNumbers_32 mOuts mWant mFnd mNum n (L_X12_saysNumbers_24 mOuts mWant mFnd mNum n)).2) mWant ((S_X12_saysNumbers_32 mOuts mWant mFnd mNum n (L_X12_saysNumbers_24 mOuts mWant mFnd mNum n)).1) mTape mNum mNam mFst mBnm mW mUn mSl mKp mnNum mnNam mnBo mnBn) := hQ.1
      refine lv_aload_n S.1 S.2.1 dX12_saysNumbers_35 rfl (lv_at hl 1 rfl) ?_
      refine lv_aload_n S.1 S.2.1 dX12_saysNumbers_36 rfl (lv_at hl 1 rfl) ?_
      refine g_get (v := .ref (α (k + 2))) S hK hP (hB0 0 _ rfl) rfl inX12 3 (by decide) qw1377 rfl dX12_saysNumbers_37 ?_
      refine lv_iconst (v := 1) S.1 S.2.1 dX12_saysNumbers_40 (by decide) ?_
      refine lv_iload_n S.1 S.2.1 dX12_saysNumbers_41 rfl (lv_at hl 0 rfl) ?_
      refine lv_iadd S.1 S.2.1 dX12_saysNumbers_42 ?_
      refine g_iald S hK hP (hB0 2 _ rfl) (add1_in (by omega)) dX12_saysNumbers_43 ?_
      have hNm : (f_X12_saysNumber ((S_X12_saysNumbers_32 mOuts mWant mFnd mNum n (L_X12_saysNumbers_24 mOuts mWant mFnd mNum n)).2) mWant ((S_X12_saysNumbers_32 mOuts mWant mFnd mNum n (L_X12_saysNumbers_24 mOuts mWant mFnd mNum n)).1) (mNum (1 + (nI n)).toNatClampNeg)) = (S_X12_saysNumbers_44 mOuts mWant mFnd mNum n (L_X12_saysNumbers_24 mOuts mWant mFnd mNum n)) := rfl
      have hCon := (c_X12_saysNumber l D A w9 α (k) mTaped mErr mPpl mBts mUs mRa mSt mKi mWd mVal mLet mFin mNp mNb ((S_X12_saysNumbers_32 mOuts mWant mFnd mNum n (L_X12_saysNumbers_24 mOuts mWant mFnd mNum n)).2) mWant ((S_X12_saysNumbers_32 mOuts mWant mFnd mNum n (L_X12_saysNumbers_24 mOuts mWant mFnd mNum n)).1) mTape mNum mNam mFst mBnm mW mUn mSl mKp mnNum mnNam mnBo mnBn (mNum (1 + (nI n)).toNatClampNeg) hB0)
      rw [hNm] at hCon
      refine g_aft0 (st1 := []) (g_V (As := [.int (mNum (1 + (nI n)).toNatClampNeg)]) (rest := []) S mi_X12_saysNumber qw1919 hCon hK hP hD hE hS (hB0 0 _ rfl) rfl rfl rfl hl.1 (Nat.le_of_ble_eq_true rfl) rfl rfl ⟨(Nat.le_of_ble_eq_true rfl), (Nat.le_of_ble_eq_true rfl)⟩ ⟨(Nat.le_of_ble_eq_true rfl), (Nat.le_of_ble_eq_true rfl)⟩ dX12_saysNumbers_44) hS rfl (fun w10 H locs hQ hP hD hS => ?_)
      have hF := hF.trans hQ.2
      have hB0 : Blk w10 k (cM D α k mTaped mErr mPpl mBts mUs mRa mSt mKi mWd mVal mLet mFin mNp mNb ((S_X12_saysNumbers_44 mOuts mWant mFnd mNum n (L_X12_saysNumbers_24 mOuts mWant mFnd mNum n)).2) mWant ((S_X12_saysNumbers_44 mOuts mWant mFnd mNum n (L_X12_saysNumbers_24 mOuts mWant mFnd mNum n)).1) mTape mNum mNam mFst mBnm mW mUn mSl mKp mnNum mnNam mnBo mnBn) := hQ.1
      refine lv_iinc (v := (nI (n + 1))) (lv' := [(1, .int (nI (n + 1))), (0, .ref (α (k)))]) S.1 S.2.1 dX12_saysNumbers_47 hl (k := 0) rfl ((nI_succ n).symm) (by decide) rfl (fun ls hl => ?_)
      refine lv_goto (tgt := 24) S.1 S.2.1 dX12_saysNumbers_50 (by decide) ?_
      have hL : (L_X12_saysNumbers_24 mOuts mWant mFnd mNum (n + 1)) = ((S_X12_saysNumbers_44 mOuts mWant mFnd mNum n (L_X12_saysNumbers_24 mOuts mWant mFnd mNum n)).1, (S_X12_saysNumbers_44 mOuts mWant mFnd mNum n (L_X12_saysNumbers_24 mOuts mWant mFnd mNum n)).2) := (iter_s _ _ _).trans (show (G_X12_saysNumbers_24 mOuts mWant mFnd mNum n (L_X12_saysNumbers_24 mOuts mWant mFnd mNum n)) = ((S_X12_saysNumbers_44 mOuts mWant mFnd mNum n (L_X12_saysNumbers_24 mOuts mWant mFnd mNum n)).1, (S_X12_saysNumbers_44 mOuts mWant mFnd mNum n (L_X12_saysNumbers_24 mOuts mWant mFnd mNum n)).2) from rfl)
      refine ih (n + 1) (lp_n hn) _ _ _ _ hP hD hS hF ?_ ?_
      · rw [hL]; (try dsimp only); exact hB0
      · exact lv_sub hl [0, 1] rfl
  have hL0 : (L_X12_saysNumbers_24 mOuts mWant mFnd mNum 0) = ((S_X12_saysNumbers_19 mOuts mWant mFnd mNum).1, (S_X12_saysNumbers_19 mOuts mWant mFnd mNum).2) := iter_z _ _
  exact lp24 4 0 (Nat.zero_add 4) _ _ _ _ hP hD hS hF (by rw [hL0]; exact hB0) (lv_sub hl [0, 1] rfl)
noncomputable def S_X12_saysSetup_2 (i : Int32) : Int32 × Int32 × Int32 := (f_X12_startsText i)
noncomputable def S_X12_saysSetup_6 (mNum : Nat → Int32) (i : Int32) : Int32 × Int32 := (f_X12_saysNumbers ((S_X12_saysSetup_2 i).2.1) ((S_X12_saysSetup_2 i).2.2) ((S_X12_saysSetup_2 i).1) mNum)
noncomputable def S_X12_saysSetup_23 (mNum : Nat → Int32) (mBnm : Nat → Int32) (i : Int32) (n : Nat) (sn : Int32 × Int32) : Int32 × Int32 := (f_X12_saysWord (sn.2) ((S_X12_saysSetup_2 i).2.2) (sn.1) 80948)
noncomputable def S_X12_saysSetup_29 (mNum : Nat → Int32) (mBnm : Nat → Int32) (i : Int32) (n : Nat) (sn : Int32 × Int32) : Int32 × Int32 := (f_X12_says ((S_X12_saysSetup_23 mNum mBnm i n sn).2) ((S_X12_saysSetup_2 i).2.2) ((S_X12_saysSetup_23 mNum mBnm i n sn).1) 32)
noncomputable def S_X12_saysSetup_40 (mNum : Nat → Int32) (mBnm : Nat → Int32) (i : Int32) (n : Nat) (sn : Int32 × Int32) : Int32 × Int32 := (f_X12_saysWord ((S_X12_saysSetup_29 mNum mBnm i n sn).2) ((S_X12_saysSetup_2 i).2.2) ((S_X12_saysSetup_29 mNum mBnm i n sn).1) ((mBnm (nI n).toNatClampNeg).toInt64))
noncomputable def S_X12_saysSetup_46 (mNum : Nat → Int32) (mBnm : Nat → Int32) (i : Int32) (n : Nat) (sn : Int32 × Int32) : Int32 × Int32 := (f_X12_says ((S_X12_saysSetup_40 mNum mBnm i n sn).2) ((S_X12_saysSetup_2 i).2.2) ((S_X12_saysSetup_40 mNum mBnm i n sn).1) 59)
noncomputable def G_X12_saysSetup_11 (mNum : Nat → Int32) (mBnm : Nat → Int32) (i : Int32) (n : Nat) (sn : Int32 × Int32) : Int32 × Int32 := ((S_X12_saysSetup_46 mNum mBnm i n sn).1, (S_X12_saysSetup_46 mNum mBnm i n sn).2)
noncomputable def L_X12_saysSetup_11 (mNum : Nat → Int32) (mBnm : Nat → Int32) (i : Int32) : Nat → Int32 × Int32 := iter_ (G_X12_saysSetup_11 mNum mBnm i) ((S_X12_saysSetup_6 mNum i).1, (S_X12_saysSetup_6 mNum i).2)
noncomputable def S_X12_saysSetup_69 (mBts : Int32) (mNum : Nat → Int32) (mNam : Nat → Int32) (mBnm : Nat → Int32) (mW : Nat → Int32) (i : Int32) (n : Nat) (sn : Int32 × Int32) : Int32 × Int32 := (f_X12_saysWord (sn.2) ((S_X12_saysSetup_2 i).2.2) (sn.1) 542723566)
noncomputable def S_X12_saysSetup_75 (mBts : Int32) (mNum : Nat → Int32) (mNam : Nat → Int32) (mBnm : Nat → Int32) (mW : Nat → Int32) (i : Int32) (n : Nat) (sn : Int32 × Int32) : Int32 × Int32 := (f_X12_says ((S_X12_saysSetup_69 mBts mNum mNam mBnm mW i n sn).2) ((S_X12_saysSetup_2 i).2.2) ((S_X12_saysSetup_69 mBts mNum mNam mBnm mW i n sn).1) 32)
noncomputable def S_X12_saysSetup_86 (mBts : Int32) (mNum : Nat → Int32) (mNam : Nat → Int32) (mBnm : Nat → Int32) (mW : Nat → Int32) (i : Int32) (n : Nat) (sn : Int32 × Int32) : Int32 × Int32 := (f_X12_saysWord ((S_X12_saysSetup_75 mBts mNum mNam mBnm mW i n sn).2) ((S_X12_saysSetup_2 i).2.2) ((S_X12_saysSetup_75 mBts mNum mNam mBnm mW i n sn).1) ((mNam (nI n).toNatClampNeg).toInt64))
noncomputable def S_X12_saysSetup_101 (mBts : Int32) (mNum : Nat → Int32) (mNam : Nat → Int32) (mBnm : Nat → Int32) (mW : Nat → Int32) (i : Int32) (n : Nat) (sn : Int32 × Int32) : Int32 × Int32 := (f_X12_says ((S_X12_saysSetup_86 mBts mNum mNam mBnm mW i n sn).2) ((S_X12_saysSetup_2 i).2.2) ((S_X12_saysSetup_86 mBts mNum mNam mBnm mW i n sn).1) 32)
noncomputable def S_X12_saysSetup_108 (mBts : Int32) (mNum : Nat → Int32) (mNam : Nat → Int32) (mBnm : Nat → Int32) (mW : Nat → Int32) (i : Int32) (n : Nat) (sn : Int32 × Int32) : Int32 × Int32 := (f_X12_saysWord ((S_X12_saysSetup_101 mBts mNum mNam mBnm mW i n sn).2) ((S_X12_saysSetup_2 i).2.2) ((S_X12_saysSetup_101 mBts mNum mNam mBnm mW i n sn).1) 486)
noncomputable def S_X12_saysSetup_114 (mBts : Int32) (mNum : Nat → Int32) (mNam : Nat → Int32) (mBnm : Nat → Int32) (mW : Nat → Int32) (i : Int32) (n : Nat) (sn : Int32 × Int32) : Int32 × Int32 := (f_X12_says ((S_X12_saysSetup_108 mBts mNum mNam mBnm mW i n sn).2) ((S_X12_saysSetup_2 i).2.2) ((S_X12_saysSetup_108 mBts mNum mNam mBnm mW i n sn).1) 32)
noncomputable def S_X12_saysSetup_130 (mBts : Int32) (mNum : Nat → Int32) (mNam : Nat → Int32) (mBnm : Nat → Int32) (mW : Nat → Int32) (i : Int32) (n : Nat) (sn : Int32 × Int32) : Int32 × Int32 := (f_X12_saysWord ((S_X12_saysSetup_114 mBts mNum mNam mBnm mW i n sn).2) ((S_X12_saysSetup_2 i).2.2) ((S_X12_saysSetup_114 mBts mNum mNam mBnm mW i n sn).1) ((mBnm (f_X12_of mW (nI n) 0).toNatClampNeg).toInt64))
noncomputable def J_X12_saysSetup_95 (mBts : Int32) (mNum : Nat → Int32) (mNam : Nat → Int32) (mBnm : Nat → Int32) (mW : Nat → Int32) (i : Int32) (n : Nat) (sn : Int32 × Int32) : Int32 × Int32 := (if (f_X12_of mW (nI n) 0) < 0 then ((S_X12_saysSetup_86 mBts mNum mNam mBnm mW i n sn).1, (S_X12_saysSetup_86 mBts mNum mNam mBnm mW i n sn).2) else ((S_X12_saysSetup_130 mBts mNum mNam mBnm mW i n sn).1, (S_X12_saysSetup_130 mBts mNum mNam mBnm mW i n sn).2))
noncomputable def S_X12_saysSetup_136 (mBts : Int32) (mNum : Nat → Int32) (mNam : Nat → Int32) (mBnm : Nat → Int32) (mW : Nat → Int32) (i : Int32) (n : Nat) (sn : Int32 × Int32) : Int32 × Int32 := (f_X12_says ((J_X12_saysSetup_95 mBts mNum mNam mBnm mW i n sn).2) ((S_X12_saysSetup_2 i).2.2) ((J_X12_saysSetup_95 mBts mNum mNam mBnm mW i n sn).1) 59)
noncomputable def G_X12_saysSetup_57 (mBts : Int32) (mNum : Nat → Int32) (mNam : Nat → Int32) (mBnm : Nat → Int32) (mW : Nat → Int32) (i : Int32) (n : Nat) (sn : Int32 × Int32) : Int32 × Int32 := ((S_X12_saysSetup_136 mBts mNum mNam mBnm mW i n sn).1, (S_X12_saysSetup_136 mBts mNum mNam mBnm mW i n sn).2)
noncomputable def L_X12_saysSetup_57 (mBts : Int32) (mNum : Nat → Int32) (mNam : Nat → Int32) (mBnm : Nat → Int32) (mW : Nat → Int32) (i : Int32) : Nat → Int32 × Int32 := iter_ (G_X12_saysSetup_57 mBts mNum mNam mBnm mW i) ((L_X12_saysSetup_11 mNum mBnm i mBts.toNatClampNeg).1, (L_X12_saysSetup_11 mNum mBnm i mBts.toNatClampNeg).2)
noncomputable def f_X12_saysSetup (mPpl : Int32) (mBts : Int32) (mNum : Nat → Int32) (mNam : Nat → Int32) (mBnm : Nat → Int32) (mW : Nat → Int32) (i : Int32) : Int32 × Int32 × Int32 := ((L_X12_saysSetup_57 mBts mNum mNam mBnm mW i mPpl.toNatClampNeg).1, (L_X12_saysSetup_57 mBts mNum mNam mBnm mW i mPpl.toNatClampNeg).2, (S_X12_saysSetup_2 i).2.2)
set_option maxHeartbeats 4000000 in
set_option maxRecDepth 100000 in
theorem c_X12_saysSetup (l : Launch) (D : va_G) (A : Nat → Prop) (w : va_W) (α : Nat → Nat) (k : Nat) (mTaped : Int32) (mErr : Int32) (mPpl : Int32) (mBts : Int32) (mUs : Int32) (mRa : Int32) (mSt : Int32) (mKi : Int32) (mWd : Int64) (mVal : Int32) (mLet : Int32) (mFin : Int32) (mNp : Int32) (mNb : Int32) (mOuts : Int32) (mWant : Int32) (mFnd : Int32) (mTape : Nat → Int32) (mNum : Nat → Int32) (mNam : Nat → Int32) (mFst : Nat → Int32) (mBnm : Nat → Int32) (mW : Nat → Int32) (mUn : Nat → Int32) (mSl : Nat → Int32) (mKp : Nat → Int32) (mnNum : Nat → Int32) (mnNam : Nat → Int32) (mnBo : Nat → Int32) (mnBn : Nat → Int32) (i : Int32) (hB0 : Blk w k (cM D α k mTaped mErr mPpl mBts mUs mRa mSt mKi mWd mVal mLet mFin mNp mNb mOuts mWant mFnd mTape mNum mNam mFst mBnm mW mUn mSl mKp mnNum mnNam mnBo mnBn)) (hy0 : vp_in mPpl 21) (hy1 : vp_in mBts 7) (hy2 : ∀ q, vp_in q 20 → ¬ f_X12_of mW q 0 < 0 → vp_in (f_X12_of mW q 0) 6) : Met l yX12_saysSetup (ws_ yX12_saysSetup cX12_saysSetup 3 none) ({ frames := 4, cells := 0, slots := 0, locals := 90 }) (gPre D A [.ref (α (k)), .int i] w) (gQ D A none (fun w1 => Blk w1 k (cM D α k mTaped mErr mPpl mBts mUs mRa mSt mKi mWd mVal mLet mFin mNp mNb ((f_X12_saysSetup mPpl mBts mNum mNam mBnm mW i).2.1) ((f_X12_saysSetup mPpl mBts mNum mNam mBnm mW i).2.2) ((f_X12_saysSetup mPpl mBts mNum mNam mBnm mW i).1) mTape mNum mNam mFst mBnm mW mUn mSl mKp mnNum mnNam mnBo mnBn) ∧ Same w w1 k 14)) 0 0 A := by
  refine g_met [(0, .ref (α (k))), (1, .int i)] (plainFor_of_name (by decide)) (Nat.le_of_ble_eq_true rfl) rfl (fun pg en s mi ar below me co ls S hK hP hD hE hS hr hlk hnm hl => ?_)
  have hF : Same w w k 14 := Same.rf
  have hpn := vin_lt (show vp_in mPpl 21 by assumption)
  have hbn := vin_lt (show vp_in mBts 7 by assumption)
  refine lv_aload_n S.1 S.2.1 dX12_saysSetup_0 rfl (lv_at hl 0 rfl) ?_
  refine lv_iload_n S.1 S.2.1 dX12_saysSetup_1 rfl (lv_at hl 1 rfl) ?_
  have hNm : (f_X12_startsText i) = (S_X12_saysSetup_2 i) := rfl
  have hCon := (c_X12_startsText l D A w α (k) mTaped mErr mPpl mBts mUs mRa mSt mKi mWd mVal mLet mFin mNp mNb mOuts mWant mFnd mTape mNum mNam mFst mBnm mW mUn mSl mKp mnNum mnNam mnBo mnBn i hB0)
  rw [hNm] at hCon
  refine g_aft0 (st1 := []) (g_V (As := [.int i]) (rest := []) S mi_X12_startsText qw1898 hCon hK hP hD hE hS (hB0 0 _ rfl) rfl rfl rfl hl.1 (Nat.le_of_ble_eq_true rfl) rfl rfl ⟨(Nat.le_of_ble_eq_true rfl), (Nat.le_of_ble_eq_true rfl)⟩ ⟨(Nat.le_of_ble_eq_true rfl), (Nat.le_of_ble_eq_true rfl)⟩ dX12_saysSetup_2) hS rfl (fun w1 H locs hQ hP hD hS => ?_)
  have hF := hF.trans hQ.2
  have hB0 : Blk w1 k (cM D α k mTaped mErr mPpl mBts mUs mRa mSt mKi mWd mVal mLet mFin mNp mNb ((S_X12_saysSetup_2 i).2.1) ((S_X12_saysSetup_2 i).2.2) ((S_X12_saysSetup_2 i).1) mTape mNum mNam mFst mBnm mW mUn mSl mKp mnNum mnNam mnBo mnBn) := hQ.1
  refine lv_aload_n S.1 S.2.1 dX12_saysSetup_5 rfl (lv_at hl 0 rfl) ?_
  have hNm : (f_X12_saysNumbers ((S_X12_saysSetup_2 i).2.1) ((S_X12_saysSetup_2 i).2.2) ((S_X12_saysSetup_2 i).1) mNum) = (S_X12_saysSetup_6 mNum i) := rfl
  have hCon := (c_X12_saysNumbers l D A w1 α (k) mTaped mErr mPpl mBts mUs mRa mSt mKi mWd mVal mLet mFin mNp mNb ((S_X12_saysSetup_2 i).2.1) ((S_X12_saysSetup_2 i).2.2) ((S_X12_saysSetup_2 i).1) mTape mNum mNam mFst mBnm mW mUn mSl mKp mnNum mnNam mnBo mnBn hB0)
  rw [hNm] at hCon
  refine g_aft0 (st1 := []) (g_V (As := []) (rest := []) S mi_X12_saysNumbers qw1956 hCon hK hP hD hE hS (hB0 0 _ rfl) rfl rfl rfl hl.1 (Nat.le_of_ble_eq_true rfl) rfl rfl ⟨(Nat.le_of_ble_eq_true rfl), (Nat.le_of_ble_eq_true rfl)⟩ ⟨(Nat.le_of_ble_eq_true rfl), (Nat.le_of_ble_eq_true rfl)⟩ dX12_saysSetup_6) hS rfl (fun w2 H locs hQ hP hD hS => ?_)
  have hF := hF.trans hQ.2
  have hB0 : Blk w2 k (cM D α k mTaped mErr mPpl mBts mUs mRa mSt mKi mWd mVal mLet mFin mNp mNb ((S_X12_saysSetup_6 mNum i).2) ((S_X12_saysSetup_2 i).2.2) ((S_X12_saysSetup_6 mNum i).1) mTape mNum mNam mFst mBnm mW mUn mSl mKp mnNum mnNam mnBo mnBn) := hQ.1
  refine lv_iconst (v := 0) S.1 S.2.1 dX12_saysSetup_9 (by decide) ?_
  refine lv_istore_n (lv' := [(2, .int 0), (0, .ref (α (k))), (1, .int i)]) S.1 S.2.1 dX12_saysSetup_10 rfl hl (by decide) rfl (fun ls hl => ?_)
  have lp11 : ∀ (j n : Nat), n + j = mBts.toNatClampNeg → ∀ (wl : va_W) (H : Heap) (locs : List Loc) (ls : Array Slot), va_P D vwCl wl H → va_D A wl → va_S A s.heap H locs → Same w wl k 14 → Blk wl k (cM D α k mTaped mErr mPpl mBts mUs mRa mSt mKi mWd mVal mLet mFin mNp mNb ((L_X12_saysSetup_11 mNum mBnm i n).2) ((S_X12_saysSetup_2 i).2.2) ((L_X12_saysSetup_11 mNum mBnm i n).1) mTape mNum mNam mFst mBnm mW mUn mSl mKp mnNum mnNam mnBo mnBn) → lv_has ls 3 [(2, .int (nI n)), (0, .ref (α (k))), (1, .int i)] → W pg l en ({ frames := 4, cells := 0, slots := 0, locals := 90 } : Room) s mi ar below me co H locs 0 0 (MQ below (gQ D A none (fun w1 => Blk w1 k (cM D α k mTaped mErr mPpl mBts mUs mRa mSt mKi mWd mVal mLet mFin mNp mNb ((f_X12_saysSetup mPpl mBts mNum mNam mBnm mW i).2.1) ((f_X12_saysSetup mPpl mBts mNum mNam mBnm mW i).2.2) ((f_X12_saysSetup mPpl mBts mNum mNam mBnm mW i).1) mTape mNum mNam mFst mBnm mW mUn mSl mKp mnNum mnNam mnBo mnBn) ∧ Same w w1 k 14)) ar s 0 0 A) (F0 mi 11 ls []) := by
    intro j
    induction j with
    | zero =>
      intro n hn wl H locs ls hP hD hS hF hB0 hl
      have hn : mBts.toNatClampNeg = n := hn.symm
      subst hn
      refine lv_iload_n S.1 S.2.1 dX12_saysSetup_11 rfl (lv_at hl 0 rfl) ?_
      refine lv_aload_n S.1 S.2.1 dX12_saysSetup_12 rfl (lv_at hl 1 rfl) ?_
      refine g_get (v := .int mBts) S hK hP (hB0 0 _ rfl) rfl inX12 5 (by decide) qw1379 rfl dX12_saysSetup_13 ?_
      refine lv_icmp_ge (tgt := 55) S.1 S.2.1 dX12_saysSetup_16 (by decide) (fun (c1 : mBts ≤ (nI mBts.toNatClampNeg)) => ?_) (fun (c1 : ¬ mBts ≤ (nI mBts.toNatClampNeg)) => absurd c1 (lp_out0 (rfl)))
      refine lv_iconst (v := 0) S.1 S.2.1 dX12_saysSetup_55 (by decide) ?_
      refine lv_istore_n (lv' := [(2, .int 0), (0, .ref (α (k))), (1, .int i)]) S.1 S.2.1 dX12_saysSetup_56 rfl hl (by decide) rfl (fun ls hl => ?_)
      have lp57 : ∀ (j n : Nat), n + j = mPpl.toNatClampNeg → ∀ (wl : va_W) (H : Heap) (locs : List Loc) (ls : Array Slot), va_P D vwCl wl H → va_D A wl → va_S A s.heap H locs → Same w wl k 14 → Blk wl k (cM D α k mTaped mErr mPpl mBts mUs mRa mSt mKi mWd mVal mLet mFin mNp mNb ((L_X12_saysSetup_57 mBts mNum mNam mBnm mW i n).2) ((S_X12_saysSetup_2 i).2.2) ((L_X12_saysSetup_57 mBts mNum mNam mBnm mW i n).1) mTape mNum mNam mFst mBnm mW mUn mSl mKp mnNum mnNam mnBo mnBn) → lv_has ls 3 [(2, .int (nI n)), (0, .ref (α (k))), (1, .int i)] → W pg l en ({ frames := 4, cells := 0, slots := 0, locals := 90 } : Room) s mi ar below me co H locs 0 0 (MQ below (gQ D A none (fun w1 => Blk w1 k (cM D α k mTaped mErr mPpl mBts mUs mRa mSt mKi mWd mVal mLet mFin mNp mNb ((f_X12_saysSetup mPpl mBts mNum mNam mBnm mW i).2.1) ((f_X12_saysSetup mPpl mBts mNum mNam mBnm mW i).2.2) ((f_X12_saysSetup mPpl mBts mNum mNam mBnm mW i).1) mTape mNum mNam mFst mBnm mW mUn mSl mKp mnNum mnNam mnBo mnBn) ∧ Same w w1 k 14)) ar s 0 0 A) (F0 mi 57 ls []) := by
        intro j
        induction j with
        | zero =>
          intro n hn wl H locs ls hP hD hS hF hB0 hl
          have hn : mPpl.toNatClampNeg = n := hn.symm
          subst hn
          refine lv_iload_n S.1 S.2.1 dX12_saysSetup_57 rfl (lv_at hl 0 rfl) ?_
          refine lv_aload_n S.1 S.2.1 dX12_saysSetup_58 rfl (lv_at hl 1 rfl) ?_
          refine g_get (v := .int mPpl) S hK hP (hB0 0 _ rfl) rfl inX12 4 (by decide) qw1378 rfl dX12_saysSetup_59 ?_
          refine lv_icmp_ge (tgt := 145) S.1 S.2.1 dX12_saysSetup_62 (by decide) (fun (c2 : mPpl ≤ (nI mPpl.toNatClampNeg)) => ?_) (fun (c2 : ¬ mPpl ≤ (nI mPpl.toNatClampNeg)) => absurd c2 (lp_out0 (rfl)))
          have hf : (f_X12_saysSetup mPpl mBts mNum mNam mBnm mW i) = ((L_X12_saysSetup_57 mBts mNum mNam mBnm mW i mPpl.toNatClampNeg).1, (L_X12_saysSetup_57 mBts mNum mNam mBnm mW i mPpl.toNatClampNeg).2, (S_X12_saysSetup_2 i).2.2) := rfl
          exact g_vret S hr hlk hP hD hS (rfl) (⟨by rw [hf]; dsimp only; exact hB0, hF⟩) dX12_saysSetup_145
        | succ j ih =>
          intro n hn wl H locs ls hP hD hS hF hB0 hl
          refine lv_iload_n S.1 S.2.1 dX12_saysSetup_57 rfl (lv_at hl 0 rfl) ?_
          refine lv_aload_n S.1 S.2.1 dX12_saysSetup_58 rfl (lv_at hl 1 rfl) ?_
          refine g_get (v := .int mPpl) S hK hP (hB0 0 _ rfl) rfl inX12 4 (by decide) qw1378 rfl dX12_saysSetup_59 ?_
          refine lv_icmp_ge (tgt := 145) S.1 S.2.1 dX12_saysSetup_62 (by decide) (fun (c3 : mPpl ≤ (nI n)) => absurd c3 (lp_in0 (rfl) hn)) (fun (c3 : ¬ mPpl ≤ (nI n)) => ?_)
          refine lv_aload_n S.1 S.2.1 dX12_saysSetup_65 rfl (lv_at hl 1 rfl) ?_
          refine lv_ldc2 (v := 542723566) S.1 S.2.1 S.2.2.2.1 (S.2.2.2.2 _ qw1512) dX12_saysSetup_66 ?_
          have hNm : (f_X12_saysWord ((L_X12_saysSetup_57 mBts mNum mNam mBnm mW i n).2) ((S_X12_saysSetup_2 i).2.2) ((L_X12_saysSetup_57 mBts mNum mNam mBnm mW i n).1) 542723566) = (S_X12_saysSetup_69 mBts mNum mNam mBnm mW i n (L_X12_saysSetup_57 mBts mNum mNam mBnm mW i n)) := rfl
          have hCon := (c_X12_saysWord l D A wl α (k) mTaped mErr mPpl mBts mUs mRa mSt mKi mWd mVal mLet mFin mNp mNb ((L_X12_saysSetup_57 mBts mNum mNam mBnm mW i n).2) ((S_X12_saysSetup_2 i).2.2) ((L_X12_saysSetup_57 mBts mNum mNam mBnm mW i n).1) mTape mNum mNam mFst mBnm mW mUn mSl mKp mnNum mnNam mnBo mnBn 542723566 hB0)
          rw [hNm] at hCon
          refine g_aft0 (st1 := []) (g_V (As := [.long 542723566]) (rest := []) S mi_X12_saysWord qw1906 hCon hK hP hD hE hS (hB0 0 _ rfl) rfl rfl rfl hl.1 (Nat.le_of_ble_eq_true rfl) rfl rfl ⟨(Nat.le_of_ble_eq_true rfl), (Nat.le_of_ble_eq_true rfl)⟩ ⟨(Nat.le_of_ble_eq_true rfl), (Nat.le_of_ble_eq_true rfl)⟩ dX12_saysSetup_69) hS rfl (fun w3 H locs hQ hP hD hS => ?_)
          have hF := hF.trans hQ.2
          have hB0 : Blk w3 k (cM D α k mTaped mErr mPpl mBts mUs mRa mSt mKi mWd mVal mLet mFin mNp mNb ((S_X12_saysSetup_69 mBts mNum mNam mBnm mW i n (L_X12_saysSetup_57 mBts mNum mNam mBnm mW i n)).2) ((S_X12_saysSetup_2 i).2.2) ((S_X12_saysSetup_69 mBts mNum mNam mBnm mW i n (L_X12_saysSetup_57 mBts mNum mNam mBnm mW i n)).1) mTape mNum mNam mFst mBnm mW mUn mSl mKp mnNum mnNam mnBo mnBn) := hQ.1
          refine lv_aload_n S.1 S.2.1 dX12_saysSetup_72 rfl (lv_at hl 1 rfl) ?_
          refine lv_bipush (v := 32) S.1 S.2.1 dX12_saysSetup_73 (by decide) ?_
          have hNm : (f_X12_says ((S_X12_saysSetup_69 mBts mNum mNam mBnm mW i n (L_X12_saysSetup_57 mBts mNum mNam mBnm mW i n)).2) ((S_X12_saysSetup_2 i).2.2) ((S_X12_saysSetup_69 mBts mNum mNam mBnm mW i n (L_X12_saysSetup_57 mBts mNum mNam mBnm mW i n)).1) 32) = (S_X12_saysSetup_75 mBts mNum mNam mBnm mW i n (L_X12_saysSetup_57 mBts mNum mNam mBnm mW i n)) := rfl
          have hCon := (c_X12_says l D A w3 α (k) mTaped mErr mPpl mBts mUs mRa mSt mKi mWd mVal mLet mFin mNp mNb ((S_X12_saysSetup_69 mBts mNum mNam mBnm mW i n (L_X12_saysSetup_57 mBts mNum mNam mBnm mW i n)).2) ((S_X12_saysSetup_2 i).2.2) ((S_X12_saysSetup_69 mBts mNum mNam mBnm mW i n (L_X12_saysSetup_57 mBts mNum mNam mBnm mW i n)).1) mTape mNum mNam mFst mBnm mW mUn mSl mKp mnNum mnNam mnBo mnBn 32 hB0)
          rw [hNm] at hCon
          refine g_aft0 (st1 := []) (g_V (As := [.int 32]) (rest := []) S mi_X12_says qw1911 hCon hK hP hD hE hS (hB0 0 _ rfl) rfl rfl rfl hl.1 (Nat.le_of_ble_eq_true rfl) rfl rfl ⟨(Nat.le_of_ble_eq_true rfl), (Nat.le_of_ble_eq_true rfl)⟩ ⟨(Nat.le_of_ble_eq_true rfl), (Nat.le_of_ble_eq_true rfl)⟩ dX12_saysSetup_75) hS rfl (fun w4 H locs hQ hP hD hS => ?_)
          have hF := hF.trans hQ.2
          have hB0 : Blk w4 k (cM D α k mTaped mErr mPpl mBts mUs mRa mSt mKi mWd mVal mLet mFin mNp mNb ((S_X12_saysSetup_75 mBts mNum mNam mBnm mW i n (L_X12_saysSetup_57 mBts mNum mNam mBnm mW i n)).2) ((S_X12_saysSetup_2 i).2.2) ((S_X12_saysSetup_75 mBts mNum mNam mBnm mW i n (L_X12_saysSetup_57 mBts mNum mNam mBnm mW i n)).1) mTape mNum mNam mFst mBnm mW mUn mSl mKp mnNum mnNam mnBo mnBn) := hQ.1
          refine lv_aload_n S.1 S.2.1 dX12_saysSetup_78 rfl (lv_at hl 1 rfl) ?_
          refine lv_aload_n S.1 S.2.1 dX12_saysSetup_79 rfl (lv_at hl 1 rfl) ?_
          refine g_get (v := .ref (α (k + 3))) S hK hP (hB0 0 _ rfl) rfl inX12 6 (by decide) qw1380 rfl dX12_saysSetup_80 ?_
          refine lv_iload_n S.1 S.2.1 dX12_saysSetup_83 rfl (lv_at hl 0 rfl) ?_
          refine g_iald S hK hP (hB0 3 _ rfl) (by first | assumption | exact vin_d (by decide) | exact vp_in_nI (by omega) (by decide) | decide) dX12_saysSetup_84 ?_
          refine lv_i2l (v := (mNam (nI n).toNatClampNeg).toInt64) S.1 S.2.1 dX12_saysSetup_85 rfl ?_
          have hNm : (f_X12_saysWord ((S_X12_saysSetup_75 mBts mNum mNam mBnm mW i n (L_X12_saysSetup_57 mBts mNum mNam mBnm mW i n)).2) ((S_X12_saysSetup_2 i).2.2) ((S_X12_saysSetup_75 mBts mNum mNam mBnm mW i n (L_X12_saysSetup_57 mBts mNum mNam mBnm mW i n)).1) ((mNam (nI n).toNatClampNeg).toInt64)) = (S_X12_saysSetup_86 mBts mNum mNam mBnm mW i n (L_X12_saysSetup_57 mBts mNum mNam mBnm mW i n)) := rfl
          have hCon := (c_X12_saysWord l D A w4 α (k) mTaped mErr mPpl mBts mUs mRa mSt mKi mWd mVal mLet mFin mNp mNb ((S_X12_saysSetup_75 mBts mNum mNam mBnm mW i n (L_X12_saysSetup_57 mBts mNum mNam mBnm mW i n)).2) ((S_X12_saysSetup_2 i).2.2) ((S_X12_saysSetup_75 mBts mNum mNam mBnm mW i n (L_X12_saysSetup_57 mBts mNum mNam mBnm mW i n)).1) mTape mNum mNam mFst mBnm mW mUn mSl mKp mnNum mnNam mnBo mnBn ((mNam (nI n).toNatClampNeg).toInt64) hB0)
          rw [hNm] at hCon
          refine g_aft0 (st1 := []) (g_V (As := [.long ((mNam (nI n).toNatClampNeg).toInt64)]) (rest := []) S mi_X12_saysWord qw1906 hCon hK hP hD hE hS (hB0 0 _ rfl) rfl rfl rfl hl.1 (Nat.le_of_ble_eq_true rfl) rfl rfl ⟨(Nat.le_of_ble_eq_true rfl), (Nat.le_of_ble_eq_true rfl)⟩ ⟨(Nat.le_of_ble_eq_true rfl), (Nat.le_of_ble_eq_true rfl)⟩ dX12_saysSetup_86) hS rfl (fun w5 H locs hQ hP hD hS => ?_)
          have hF := hF.trans hQ.2
          have hB0 : Blk w5 k (cM D α k mTaped mErr mPpl mBts mUs mRa mSt mKi mWd mVal mLet mFin mNp mNb ((S_X12_saysSetup_86 mBts mNum mNam mBnm mW i n (L_X12_saysSetup_57 mBts mNum mNam mBnm mW i n)).2) ((S_X12_saysSetup_2 i).2.2) ((S_X12_saysSetup_86 mBts mNum mNam mBnm mW i n (L_X12_saysSetup_57 mBts mNum mNam mBnm mW i n)).1) mTape mNum mNam mFst mBnm mW mUn mSl mKp mnNum mnNam mnBo mnBn) := hQ.1
          refine lv_aload_n S.1 S.2.1 dX12_saysSetup_89 rfl (lv_at hl 1 rfl) ?_
          refine lv_iload_n S.1 S.2.1 dX12_saysSetup_90 rfl (lv_at hl 0 rfl) ?_
          refine lv_iconst (v := 0) S.1 S.2.1 dX12_saysSetup_91 (by decide) ?_
          refine g_aftR0 (st1 := [.int (f_X12_of mW (nI n) 0)]) (g_V (As := [.int (nI n), .int 0]) (rest := []) S mi_X12_of qw1579 (c_X12_of l D A w5 α (k) mTaped mErr mPpl mBts mUs mRa mSt mKi mWd mVal mLet mFin mNp mNb ((S_X12_saysSetup_86 mBts mNum mNam mBnm mW i n (L_X12_saysSetup_57 mBts mNum mNam mBnm mW i n)).2) ((S_X12_saysSetup_2 i).2.2) ((S_X12_saysSetup_86 mBts mNum mNam mBnm mW i n (L_X12_saysSetup_57 mBts mNum mNam mBnm mW i n)).1) mTape mNum mNam mFst mBnm mW mUn mSl mKp mnNum mnNam mnBo mnBn (nI n) 0 hB0 (by first | assumption | exact vin_d (by decide) | exact vp_in_nI (by omega) (by decide) | decide | omega) (by first | assumption | exact vin_d (by decide) | exact vp_in_nI (by omega) (by decide) | decide | omega)) hK hP hD hE hS (hB0 0 _ rfl) rfl rfl rfl hl.1 (Nat.le_of_ble_eq_true rfl) rfl rfl ⟨(Nat.le_of_ble_eq_true rfl), (Nat.le_of_ble_eq_true rfl)⟩ ⟨(Nat.le_of_ble_eq_true rfl), (Nat.le_of_ble_eq_true rfl)⟩ dX12_saysSetup_92) hS rfl (fun locs hS => ?_)
          have jn95 : ∀ (wl : va_W) (H : Heap) (locs : List Loc) (ls : Array Slot), va_P D vwCl wl H → va_D A wl → va_S A s.heap H locs → Same w wl k 14 → Blk wl k (cM D α k mTaped mErr mPpl mBts mUs mRa mSt mKi mWd mVal mLet mFin mNp mNb ((J_X12_saysSetup_95 mBts mNum mNam mBnm mW i n (L_X12_saysSetup_57 mBts mNum mNam mBnm mW i n)).2) ((S_X12_saysSetup_2 i).2.2) ((J_X12_saysSetup_95 mBts mNum mNam mBnm mW i n (L_X12_saysSetup_57 mBts mNum mNam mBnm mW i n)).1) mTape mNum mNam mFst mBnm mW mUn mSl mKp mnNum mnNam mnBo mnBn) → lv_has ls 3 [(2, .int (nI n)), (0, .ref (α (k))), (1, .int i)] → W pg l en ({ frames := 4, cells := 0, slots := 0, locals := 90 } : Room) s mi ar below me co H locs 0 0 (MQ below (gQ D A none (fun w1 => Blk w1 k (cM D α k mTaped mErr mPpl mBts mUs mRa mSt mKi mWd mVal mLet mFin mNp mNb ((f_X12_saysSetup mPpl mBts mNum mNam mBnm mW i).2.1) ((f_X12_saysSetup mPpl mBts mNum mNam mBnm mW i).2.2) ((f_X12_saysSetup mPpl mBts mNum mNam mBnm mW i).1) mTape mNum mNam mFst mBnm mW mUn mSl mKp mnNum mnNam mnBo mnBn) ∧ Same w w1 k 14)) ar s 0 0 A) (F0 mi 133 ls []) := by
            intro wl H locs ls hP hD hS hF hB0 hl
            refine lv_aload_n S.1 S.2.1 dX12_saysSetup_133 rfl (lv_at hl 1 rfl) ?_
            refine lv_bipush (v := 59) S.1 S.2.1 dX12_saysSetup_134 (by decide) ?_
            have hNm : (f_X12_says ((J_X12_saysSetup_95 mBts mNum mNam mBnm mW i n (L_X12_saysSetup_57 mBts mNum mNam mBnm mW i n)).2) ((S_X12_saysSetup_2 i).2.2) ((J_X12_saysSetup_95 mBts mNum mNam mBnm mW i n (L_X12_saysSetup_57 mBts mNum mNam mBnm mW i n)).1) 59) = (S_X12_saysSetup_136 mBts mNum mNam mBnm mW i n (L_X12_saysSetup_57 mBts mNum mNam mBnm mW i n)) := rfl
            have hCon := (c_X12_says l D A wl α (k) mTaped mErr mPpl mBts mUs mRa mSt mKi mWd mVal mLet mFin mNp mNb ((J_X12_saysSetup_95 mBts mNum mNam mBnm mW i n (L_X12_saysSetup_57 mBts mNum mNam mBnm mW i n)).2) ((S_X12_saysSetup_2 i).2.2) ((J_X12_saysSetup_95 mBts mNum mNam mBnm mW i n (L_X12_saysSetup_57 mBts mNum mNam mBnm mW i n)).1) mTape mNum mNam mFst mBnm mW mUn mSl mKp mnNum mnNam mnBo mnBn 59 hB0)
            rw [hNm] at hCon
            refine g_aft0 (st1 := []) (g_V (As := [.int 59]) (rest := []) S mi_X12_says qw1911 hCon hK hP hD hE hS (hB0 0 _ rfl) rfl rfl rfl hl.1 (Nat.le_of_ble_eq_true rfl) rfl rfl ⟨(Nat.le_of_ble_eq_true rfl), (Nat.le_of_ble_eq_true rfl)⟩ ⟨(Nat.le_of_ble_eq_true rfl), (Nat.le_of_ble_eq_true rfl)⟩ dX12_saysSetup_136) hS rfl (fun w10 H locs hQ hP hD hS => ?_)
            have hF := hF.trans hQ.2
            have hB0 : Blk w10 k (cM D α k mTaped mErr mPpl mBts mUs mRa mSt mKi mWd mVal mLet mFin mNp mNb ((S_X12_saysSetup_136 mBts mNum mNam mBnm mW i n (L_X12_saysSetup_57 mBts mNum mNam mBnm mW i n)).2) ((S_X12_saysSetup_2 i).2.2) ((S_X12_saysSetup_136 mBts mNum mNam mBnm mW i n (L_X12_saysSetup_57 mBts mNum mNam mBnm mW i n)).1) mTape mNum mNam mFst mBnm mW mUn mSl mKp mnNum mnNam mnBo mnBn) := hQ.1
            refine lv_iinc (v := (nI (n + 1))) (lv' := [(2, .int (nI (n + 1))), (0, .ref (α (k))), (1, .int i)]) S.1 S.2.1 dX12_saysSetup_139 hl (k := 0) rfl ((nI_succ n).symm) (by decide) rfl (fun ls hl => ?_)
            refine lv_goto (tgt := 57) S.1 S.2.1 dX12_saysSetup_142 (by decide) ?_
            have hL : (L_X12_saysSetup_57 mBts mNum mNam mBnm mW i (n + 1)) = ((S_X12_saysSetup_136 mBts mNum mNam mBnm mW i n (L_X12_saysSetup_57 mBts mNum mNam mBnm mW i n)).1, (S_X12_saysSetup_136 mBts mNum mNam mBnm mW i n (L_X12_saysSetup_57 mBts mNum mNam mBnm mW i n)).2) := (iter_s _ _ _).trans (show (G_X12_saysSetup_57 mBts mNum mNam mBnm mW i n (L_X12_saysSetup_57 mBts mNum mNam mBnm mW i n)) = ((S_X12_saysSetup_136 mBts mNum mNam mBnm mW i n (L_X12_saysSetup_57 mBts mNum mNam mBnm mW i n)).1, (S_X12_saysSetup_136 mBts mNum mNam mBnm mW i n (L_X12_saysSetup_57 mBts mNum mNam mBnm mW i n)).2) from rfl)
            refine ih (n + 1) (lp_n hn) _ _ _ _ hP hD hS hF ?_ ?_
            · rw [hL]; (try dsimp only); exact hB0
            · exact lv_sub hl [0, 1, 2] rfl
          refine lv_if_lt (tgt := 133) S.1 S.2.1 dX12_saysSetup_95 (by decide) (fun (c4 : (f_X12_of mW (nI n) 0) < 0) => ?_) (fun (c4 : ¬ (f_X12_of mW (nI n) 0) < 0) => ?_)
          · skip
            have hJ : (J_X12_saysSetup_95 mBts mNum mNam mBnm mW i n (L_X12_saysSetup_57 mBts mNum mNam mBnm mW i n)) = ((S_X12_saysSetup_86 mBts mNum mNam mBnm mW i n (L_X12_saysSetup_57 mBts mNum mNam mBnm mW i n)).1, (S_X12_saysSetup_86 mBts mNum mNam mBnm mW i n (L_X12_saysSetup_57 mBts mNum mNam mBnm mW i n)).2) := if_pos c4
            have qj := jn95
            rw [hJ] at qj
            (try dsimp only at qj)
            exact qj _ _ _ _ hP hD hS hF hB0 (lv_sub hl [0, 1, 2] rfl)
          · refine lv_aload_n S.1 S.2.1 dX12_saysSetup_98 rfl (lv_at hl 1 rfl) ?_
            refine lv_bipush (v := 32) S.1 S.2.1 dX12_saysSetup_99 (by decide) ?_
            have hNm : (f_X12_says ((S_X12_saysSetup_86 mBts mNum mNam mBnm mW i n (L_X12_saysSetup_57 mBts mNum mNam mBnm mW i n)).2) ((S_X12_saysSetup_2 i).2.2) ((S_X12_saysSetup_86 mBts mNum mNam mBnm mW i n (L_X12_saysSetup_57 mBts mNum mNam mBnm mW i n)).1) 32) = (S_X12_saysSetup_101 mBts mNum mNam mBnm mW i n (L_X12_saysSetup_57 mBts mNum mNam mBnm mW i n)) := rfl
            have hCon := (c_X12_says l D A w5 α (k) mTaped mErr mPpl mBts mUs mRa mSt mKi mWd mVal mLet mFin mNp mNb ((S_X12_saysSetup_86 mBts mNum mNam mBnm mW i n (L_X12_saysSetup_57 mBts mNum mNam mBnm mW i n)).2) ((S_X12_saysSetup_2 i).2.2) ((S_X12_saysSetup_86 mBts mNum mNam mBnm mW i n (L_X12_saysSetup_57 mBts mNum mNam mBnm mW i n)).1) mTape mNum mNam mFst mBnm mW mUn mSl mKp mnNum mnNam mnBo mnBn 32 hB0)
            rw [hNm] at hCon
            refine g_aft0 (st1 := []) (g_V (As := [.int 32]) (rest := []) S mi_X12_says qw1911 hCon hK hP hD hE hS (hB0 0 _ rfl) rfl rfl rfl hl.1 (Nat.le_of_ble_eq_true rfl) rfl rfl ⟨(Nat.le_of_ble_eq_true rfl), (Nat.le_of_ble_eq_true rfl)⟩ ⟨(Nat.le_of_ble_eq_true rfl), (Nat.le_of_ble_eq_true rfl)⟩ dX12_saysSetup_101) hS rfl (fun w6 H locs hQ hP hD hS => ?_)
            have hF := hF.trans hQ.2
            have hB0 : Blk w6 k (cM D α k mTaped mErr mPpl mBts mUs mRa mSt mKi mWd mVal mLet mFin mNp mNb ((S_X12_saysSetup_101 mBts mNum mNam mBnm mW i n (L_X12_saysSetup_57 mBts mNum mNam mBnm mW i n)).2) ((S_X12_saysSetup_2 i).2.2) ((S_X12_saysSetup_101 mBts mNum mNam mBnm mW i n (L_X12_saysSetup_57 mBts mNum mNam mBnm mW i n)).1) mTape mNum mNam mFst mBnm mW mUn mSl mKp mnNum mnNam mnBo mnBn) := hQ.1
            refine lv_aload_n S.1 S.2.1 dX12_saysSetup_104 rfl (lv_at hl 1 rfl) ?_
            refine lv_ldc2 (v := 486) S.1 S.2.1 S.2.2.2.1 (S.2.2.2.2 _ qw1513) dX12_saysSetup_105 ?_
            have hNm : (f_X12_saysWord ((S_X12_saysSetup_101 mBts mNum mNam mBnm mW i n (L_X12_saysSetup_57 mBts mNum mNam mBnm mW i n)).2) ((S_X12_saysSetup_2 i).2.2) ((S_X12_saysSetup_101 mBts mNum mNam mBnm mW i n (L_X12_saysSetup_57 mBts mNum mNam mBnm mW i n)).1) 486) = (S_X12_saysSetup_108 mBts mNum mNam mBnm mW i n (L_X12_saysSetup_57 mBts mNum mNam mBnm mW i n)) := rfl
            have hCon := (c_X12_saysWord l D A w6 α (k) mTaped mErr mPpl mBts mUs mRa mSt mKi mWd mVal mLet mFin mNp mNb ((S_X12_saysSetup_101 mBts mNum mNam mBnm mW i n (L_X12_saysSetup_57 mBts mNum mNam mBnm mW i n)).2) ((S_X12_saysSetup_2 i).2.2) ((S_X12_saysSetup_101 mBts mNum mNam mBnm mW i n (L_X12_saysSetup_57 mBts mNum mNam mBnm mW i n)).1) mTape mNum mNam mFst mBnm mW mUn mSl mKp mnNum mnNam mnBo mnBn 486 hB0)
            rw [hNm] at hCon
            refine g_aft0 (st1 := []) (g_V (As := [.long 486]) (rest := []) S mi_X12_saysWord qw1906 hCon hK hP hD hE hS (hB0 0 _ rfl) rfl rfl rfl hl.1 (Nat.le_of_ble_eq_true rfl) rfl rfl ⟨(Nat.le_of_ble_eq_true rfl), (Nat.le_of_ble_eq_true rfl)⟩ ⟨(Nat.le_of_ble_eq_true rfl), (Nat.le_of_ble_eq_true rfl)⟩ dX12_saysSetup_108) hS rfl (fun w7 H locs hQ hP hD hS => ?_)
            have hF := hF.trans hQ.2
            have hB0 : Blk w7 k (cM D α k mTaped mErr mPpl mBts mUs mRa mSt mKi mWd mVal mLet mFin mNp mNb ((S_X12_saysSetup_108 mBts mNum mNam mBnm mW i n (L_X12_saysSetup_57 mBts mNum mNam mBnm mW i n)).2) ((S_X12_saysSetup_2 i).2.2) ((S_X12_saysSetup_108 mBts mNum mNam mBnm mW i n (L_X12_saysSetup_57 mBts mNum mNam mBnm mW i n)).1) mTape mNum mNam mFst mBnm mW mUn mSl mKp mnNum mnNam mnBo mnBn) := hQ.1
            refine lv_aload_n S.1 S.2.1 dX12_saysSetup_111 rfl (lv_at hl 1 rfl) ?_
            refine lv_bipush (v := 32) S.1 S.2.1 dX12_saysSetup_112 (by decide) ?_
            have hNm : (f_X12_says ((S_X12_saysSetup_108 mBts mNum mNam mBnm mW i n (L_X12_saysSetup_57 mBts mNum mNam mBnm mW i n)).2) ((S_X12_saysSetup_2 i).2.2) ((S_X12_saysSetup_108 mBts mNum mNam mBnm mW i n (L_X12_saysSetup_57 mBts mNum mNam mBnm mW i n)).1) 32) = (S_X12_saysSetup_114 mBts mNum mNam mBnm mW i n (L_X12_saysSetup_57 mBts mNum mNam mBnm mW i n)) := rfl
            have hCon := (c_X12_says l D A w7 α (k) mTaped mErr mPpl mBts mUs mRa mSt mKi mWd mVal mLet mFin mNp mNb ((S_X12_saysSetup_108 mBts mNum mNam mBnm mW i n (L_X12_saysSetup_57 mBts mNum mNam mBnm mW i n)).2) ((S_X12_saysSetup_2 i).2.2) ((S_X12_saysSetup_108 mBts mNum mNam mBnm mW i n (L_X12_saysSetup_57 mBts mNum mNam mBnm mW i n)).1) mTape mNum mNam mFst mBnm mW mUn mSl mKp mnNum mnNam mnBo mnBn 32 hB0)
            rw [hNm] at hCon
            refine g_aft0 (st1 := []) (g_V (As := [.int 32]) (rest := []) S mi_X12_says qw1911 hCon hK hP hD hE hS (hB0 0 _ rfl) rfl rfl rfl hl.1 (Nat.le_of_ble_eq_true rfl) rfl rfl ⟨(Nat.le_of_ble_eq_true rfl), (Nat.le_of_ble_eq_true rfl)⟩ ⟨(Nat.le_of_ble_eq_true rfl), (Nat.le_of_ble_eq_true rfl)⟩ dX12_saysSetup_114) hS rfl (fun w8 H locs hQ hP hD hS => ?_)
            have hF := hF.trans hQ.2
            have hB0 : Blk w8 k (cM D α k mTaped mErr mPpl mBts mUs mRa mSt mKi mWd mVal mLet mFin mNp mNb ((S_X12_saysSetup_114 mBts mNum mNam mBnm mW i n (L_X12_saysSetup_57 mBts mNum mNam mBnm mW i n)).2) ((S_X12_saysSetup_2 i).2.2) ((S_X12_saysSetup_114 mBts mNum mNam mBnm mW i n (L_X12_saysSetup_57 mBts mNum mNam mBnm mW i n)).1) mTape mNum mNam mFst mBnm mW mUn mSl mKp mnNum mnNam mnBo mnBn) := hQ.1
            refine lv_aload_n S.1 S.2.1 dX12_saysSetup_117 rfl (lv_at hl 1 rfl) ?_
            refine lv_aload_n S.1 S.2.1 dX12_saysSetup_118 rfl (lv_at hl 1 rfl) ?_
            refine g_get (v := .ref (α (k + 5))) S hK hP (hB0 0 _ rfl) rfl inX12 8 (by decide) qw1382 rfl dX12_saysSetup_119 ?_
            refine lv_aload_n S.1 S.2.1 dX12_saysSetup_122 rfl (lv_at hl 1 rfl) ?_
            refine lv_iload_n S.1 S.2.1 dX12_saysSetup_123 rfl (lv_at hl 0 rfl) ?_
            refine lv_iconst (v := 0) S.1 S.2.1 dX12_saysSetup_124 (by decide) ?_
            refine g_aftR0 (st1 := [.int (f_X12_of mW (nI n) 0), .ref (α (k + 5)), .ref (α (k))]) (g_V (As := [.int (nI n), .int 0]) (rest := [.ref (α (k + 5)), .ref (α (k))]) S mi_X12_of qw1579 (c_X12_of l D A w8 α (k) mTaped mErr mPpl mBts mUs mRa mSt mKi mWd mVal mLet mFin mNp mNb ((S_X12_saysSetup_114 mBts mNum mNam mBnm mW i n (L_X12_saysSetup_57 mBts mNum mNam mBnm mW i n)).2) ((S_X12_saysSetup_2 i).2.2) ((S_X12_saysSetup_114 mBts mNum mNam mBnm mW i n (L_X12_saysSetup_57 mBts mNum mNam mBnm mW i n)).1) mTape mNum mNam mFst mBnm mW mUn mSl mKp mnNum mnNam mnBo mnBn (nI n) 0 hB0 (by first | assumption | exact vin_d (by decide) | exact vp_in_nI (by omega) (by decide) | decide | omega) (by first | assumption | exact vin_d (by decide) | exact vp_in_nI (by omega) (by decide) | decide | omega)) hK hP hD hE hS (hB0 0 _ rfl) rfl rfl rfl hl.1 (Nat.le_of_ble_eq_true rfl) rfl rfl ⟨(Nat.le_of_ble_eq_true rfl), (Nat.le_of_ble_eq_true rfl)⟩ ⟨(Nat.le_of_ble_eq_true rfl), (Nat.le_of_ble_eq_true rfl)⟩ dX12_saysSetup_125) hS rfl (fun locs hS => ?_)
            refine g_iald S hK hP (hB0 5 _ rfl) (hy2 _ (vp_in_nI (by omega) (by decide)) (by assumption)) dX12_saysSetup_128 ?_
            refine lv_i2l (v := (mBnm (f_X12_of mW (nI n) 0).toNatClampNeg).toInt64) S.1 S.2.1 dX12_saysSetup_129 rfl ?_
            have hNm : (f_X12_saysWord ((S_X12_saysSetup_114 mBts mNum mNam mBnm mW i n (L_X12_saysSetup_57 mBts mNum mNam mBnm mW i n)).2) ((S_X12_saysSetup_2 i).2.2) ((S_X12_saysSetup_114 mBts mNum mNam mBnm mW i n (L_X12_saysSetup_57 mBts mNum mNam mBnm mW i n)).1) ((mBnm (f_X12_of mW (nI n) 0).toNatClampNeg).toInt64)) = (S_X12_saysSetup_130 mBts mNum mNam mBnm mW i n (L_X12_saysSetup_57 mBts mNum mNam mBnm mW i n)) := rfl
            have hCon := (c_X12_saysWord l D A w8 α (k) mTaped mErr mPpl mBts mUs mRa mSt mKi mWd mVal mLet mFin mNp mNb ((S_X12_saysSetup_114 mBts mNum mNam mBnm mW i n (L_X12_saysSetup_57 mBts mNum mNam mBnm mW i n)).2) ((S_X12_saysSetup_2 i).2.2) ((S_X12_saysSetup_114 mBts mNum mNam mBnm mW i n (L_X12_saysSetup_57 mBts mNum mNam mBnm mW i n)).1) mTape mNum mNam mFst mBnm mW mUn mSl mKp mnNum mnNam mnBo mnBn ((mBnm (f_X12_of mW (nI n) 0).toNatClampNeg).toInt64) hB0)
            rw [hNm] at hCon
            refine g_aft0 (st1 := []) (g_V (As := [.long ((mBnm (f_X12_of mW (nI n) 0).toNatClampNeg).toInt64)]) (rest := []) S mi_X12_saysWord qw1906 hCon hK hP hD hE hS (hB0 0 _ rfl) rfl rfl rfl hl.1 (Nat.le_of_ble_eq_true rfl) rfl rfl ⟨(Nat.le_of_ble_eq_true rfl), (Nat.le_of_ble_eq_true rfl)⟩ ⟨(Nat.le_of_ble_eq_true rfl), (Nat.le_of_ble_eq_true rfl)⟩ dX12_saysSetup_130) hS rfl (fun w9 H locs hQ hP hD hS => ?_)
            have hF := hF.trans hQ.2
            have hB0 : Blk w9 k (cM D α k mTaped mErr mPpl mBts mUs mRa mSt mKi mWd mVal mLet mFin mNp mNb ((S_X12_saysSetup_130 mBts mNum mNam mBnm mW i n (L_X12_saysSetup_57 mBts mNum mNam mBnm mW i n)).2) ((S_X12_saysSetup_2 i).2.2) ((S_X12_saysSetup_130 mBts mNum mNam mBnm mW i n (L_X12_saysSetup_57 mBts mNum mNam mBnm mW i n)).1) mTape mNum mNam mFst mBnm mW mUn mSl mKp mnNum mnNam mnBo mnBn) := hQ.1
            have hJ : (J_X12_saysSetup_95 mBts mNum mNam mBnm mW i n (L_X12_saysSetup_57 mBts mNum mNam mBnm mW i n)) = ((S_X12_saysSetup_130 mBts mNum mNam mBnm mW i n (L_X12_saysSetup_57 mBts mNum mNam mBnm mW i n)).1, (S_X12_saysSetup_130 mBts mNum mNam mBnm mW i n (L_X12_saysSetup_57 mBts mNum mNam mBnm mW i n)).2) := if_neg c4
            have qj := jn95
            rw [hJ] at qj
            (try dsimp only at qj)
            exact qj _ _ _ _ hP hD hS hF hB0 (lv_sub hl [0, 1, 2] rfl)
      have hL0 : (L_X12_saysSetup_57 mBts mNum mNam mBnm mW i 0) = ((L_X12_saysSetup_11 mNum mBnm i mBts.toNatClampNeg).1, (L_X12_saysSetup_11 mNum mBnm i mBts.toNatClampNeg).2) := iter_z _ _
      exact lp57 mPpl.toNatClampNeg 0 (Nat.zero_add mPpl.toNatClampNeg) _ _ _ _ hP hD hS hF (by rw [hL0]; exact hB0) (lv_sub hl [0, 1, 2] rfl)
    | succ j ih =>
      intro n hn wl H locs ls hP hD hS hF hB0 hl
      refine lv_iload_n S.1 S.2.1 dX12_saysSetup_11 rfl (lv_at hl 0 rfl) ?_
      refine lv_aload_n S.1 S.2.1 dX12_saysSetup_12 rfl (lv_at hl 1 rfl) ?_
      refine g_get (v := .int mBts) S hK hP (hB0 0 _ rfl) rfl inX12 5 (by decide) qw1379 rfl dX12_saysSetup_13 ?_
      refine lv_icmp_ge (tgt := 55) S.1 S.2.1 dX12_saysSetup_16 (by decide) (fun (c5 : mBts ≤ (nI n)) => absurd c5 (lp_in0 (rfl) hn)) (fun (c5 : ¬ mBts ≤ (nI n)) => ?_)
      refine lv_aload_n S.1 S.2.1 dX12_saysSetup_19 rfl (lv_at hl 1 rfl) ?_
      refine lv_ldc2 (v := 80948) S.1 S.2.1 S.2.2.2.1 (S.2.2.2.2 _ qw1511) dX12_saysSetup_20 ?_
      have hNm : (f_X12_saysWord ((L_X12_saysSetup_11 mNum mBnm i n).2) ((S_X12_saysSetup_2 i).2.2) ((L_X12_saysSetup_11 mNum mBnm i n).1) 80948) = (S_X12_saysSetup_23 mNum mBnm i n (L_X12_saysSetup_11 mNum mBnm i n)) := rfl
      have hCon := (c_X12_saysWord l D A wl α (k) mTaped mErr mPpl mBts mUs mRa mSt mKi mWd mVal mLet mFin mNp mNb ((L_X12_saysSetup_11 mNum mBnm i n).2) ((S_X12_saysSetup_2 i).2.2) ((L_X12_saysSetup_11 mNum mBnm i n).1) mTape mNum mNam mFst mBnm mW mUn mSl mKp mnNum mnNam mnBo mnBn 80948 hB0)
      rw [hNm] at hCon
      refine g_aft0 (st1 := []) (g_V (As := [.long 80948]) (rest := []) S mi_X12_saysWord qw1906 hCon hK hP hD hE hS (hB0 0 _ rfl) rfl rfl rfl hl.1 (Nat.le_of_ble_eq_true rfl) rfl rfl ⟨(Nat.le_of_ble_eq_true rfl), (Nat.le_of_ble_eq_true rfl)⟩ ⟨(Nat.le_of_ble_eq_true rfl), (Nat.le_of_ble_eq_true rfl)⟩ dX12_saysSetup_23) hS rfl (fun w11 H locs hQ hP hD hS => ?_)
      have hF := hF.trans hQ.2
      have hB0 : Blk w11 k (cM D α k mTaped mErr mPpl mBts mUs mRa mSt mKi mWd mVal mLet mFin mNp mNb ((S_X12_saysSetup_23 mNum mBnm i n (L_X12_saysSetup_11 mNum mBnm i n)).2) ((S_X12_saysSetup_2 i).2.2) ((S_X12_saysSetup_23 mNum mBnm i n (L_X12_saysSetup_11 mNum mBnm i n)).1) mTape mNum mNam mFst mBnm mW mUn mSl mKp mnNum mnNam mnBo mnBn) := hQ.1
      refine lv_aload_n S.1 S.2.1 dX12_saysSetup_26 rfl (lv_at hl 1 rfl) ?_
      refine lv_bipush (v := 32) S.1 S.2.1 dX12_saysSetup_27 (by decide) ?_
      have hNm : (f_X12_says ((S_X12_saysSetup_23 mNum mBnm i n (L_X12_saysSetup_11 mNum mBnm i n)).2) ((S_X12_saysSetup_2 i).2.2) ((S_X12_saysSetup_23 mNum mBnm i n (L_X12_saysSetup_11 mNum mBnm i n)).1) 32) = (S_X12_saysSetup_29 mNum mBnm i n (L_X12_saysSetup_11 mNum mBnm i n)) := rfl
      have hCon := (c_X12_says l D A w11 α (k) mTaped mErr mPpl mBts mUs mRa mSt mKi mWd mVal mLet mFin mNp mNb ((S_X12_saysSetup_23 mNum mBnm i n (L_X12_saysSetup_11 mNum mBnm i n)).2) ((S_X12_saysSetup_2 i).2.2) ((S_X12_saysSetup_23 mNum mBnm i n (L_X12_saysSetup_11 mNum mBnm i n)).1) mTape mNum mNam mFst mBnm mW mUn mSl mKp mnNum mnNam mnBo mnBn 32 hB0)
      rw [hNm] at hCon
      refine g_aft0 (st1 := []) (g_V (As := [.int 32]) (rest := []) S mi_X12_says qw1911 hCon hK hP hD hE hS (hB0 0 _ rfl) rfl rfl rfl hl.1 (Nat.le_of_ble_eq_true rfl) rfl rfl ⟨(Nat.le_of_ble_eq_true rfl), (Nat.le_of_ble_eq_true rfl)⟩ ⟨(Nat.le_of_ble_eq_true rfl), (Nat.le_of_ble_eq_true rfl)⟩ dX12_saysSetup_29) hS rfl (fun w12 H locs hQ hP hD hS => ?_)
      have hF := hF.trans hQ.2
      have hB0 : Blk w12 k (cM D α k mTaped mErr mPpl mBts mUs mRa mSt mKi mWd mVal mLet mFin mNp mNb ((S_X12_saysSetup_29 mNum mBnm i n (L_X12_saysSetup_11 mNum mBnm i n)).2) ((S_X12_saysSetup_2 i).2.2) ((S_X12_saysSetup_29 mNum mBnm i n (L_X12_saysSetup_11 mNum mBnm i n)).1) mTape mNum mNam mFst mBnm mW mUn mSl mKp mnNum mnNam mnBo mnBn) := hQ.1
      refine lv_aload_n S.1 S.2.1 dX12_saysSetup_32 rfl (lv_at hl 1 rfl) ?_
      refine lv_aload_n S.1 S.2.1 dX12_saysSetup_33 rfl (lv_at hl 1 rfl) ?_
      refine g_get (v := .ref (α (k + 5))) S hK hP (hB0 0 _ rfl) rfl inX12 8 (by decide) qw1382 rfl dX12_saysSetup_34 ?_
      refine lv_iload_n S.1 S.2.1 dX12_saysSetup_37 rfl (lv_at hl 0 rfl) ?_
      refine g_iald S hK hP (hB0 5 _ rfl) (by first | assumption | exact vin_d (by decide) | exact vp_in_nI (by omega) (by decide) | decide) dX12_saysSetup_38 ?_
      refine lv_i2l (v := (mBnm (nI n).toNatClampNeg).toInt64) S.1 S.2.1 dX12_saysSetup_39 rfl ?_
      have hNm : (f_X12_saysWord ((S_X12_saysSetup_29 mNum mBnm i n (L_X12_saysSetup_11 mNum mBnm i n)).2) ((S_X12_saysSetup_2 i).2.2) ((S_X12_saysSetup_29 mNum mBnm i n (L_X12_saysSetup_11 mNum mBnm i n)).1) ((mBnm (nI n).toNatClampNeg).toInt64)) = (S_X12_saysSetup_40 mNum mBnm i n (L_X12_saysSetup_11 mNum mBnm i n)) := rfl
      have hCon := (c_X12_saysWord l D A w12 α (k) mTaped mErr mPpl mBts mUs mRa mSt mKi mWd mVal mLet mFin mNp mNb ((S_X12_saysSetup_29 mNum mBnm i n (L_X12_saysSetup_11 mNum mBnm i n)).2) ((S_X12_saysSetup_2 i).2.2) ((S_X12_saysSetup_29 mNum mBnm i n (L_X12_saysSetup_11 mNum mBnm i n)).1) mTape mNum mNam mFst mBnm mW mUn mSl mKp mnNum mnNam mnBo mnBn ((mBnm (nI n).toNatClampNeg).toInt64) hB0)
      rw [hNm] at hCon
      refine g_aft0 (st1 := []) (g_V (As := [.long ((mBnm (nI n).toNatClampNeg).toInt64)]) (rest := []) S mi_X12_saysWord qw1906 hCon hK hP hD hE hS (hB0 0 _ rfl) rfl rfl rfl hl.1 (Nat.le_of_ble_eq_true rfl) rfl rfl ⟨(Nat.le_of_ble_eq_true rfl), (Nat.le_of_ble_eq_true rfl)⟩ ⟨(Nat.le_of_ble_eq_true rfl), (Nat.le_of_ble_eq_true rfl)⟩ dX12_saysSetup_40) hS rfl (fun w13 H locs hQ hP hD hS => ?_)
      have hF := hF.trans hQ.2
      have hB0 : Blk w13 k (cM D α k mTaped mErr mPpl mBts mUs mRa mSt mKi mWd mVal mLet mFin mNp mNb ((S_X12_saysSetup_40 mNum mBnm i n (L_X12_saysSetup_11 mNum mBnm i n)).2) ((S_X12_saysSetup_2 i).2.2) ((S_X12_saysSetup_40 mNum mBnm i n (L_X12_saysSetup_11 mNum mBnm i n)).1) mTape mNum mNam mFst mBnm mW mUn mSl mKp mnNum mnNam mnBo mnBn) := hQ.1
      refine lv_aload_n S.1 S.2.1 dX12_saysSetup_43 rfl (lv_at hl 1 rfl) ?_
      refine lv_bipush (v := 59) S.1 S.2.1 dX12_saysSetup_44 (by decide) ?_
      have hNm : (f_X12_says ((S_X12_saysSetup_40 mNum mBnm i n (L_X12_saysSetup_11 mNum mBnm i n)).2) ((S_X12_saysSetup_2 i).2.2) ((S_X12_saysSetup_40 mNum mBnm i n (L_X12_saysSetup_11 mNum mBnm i n)).1) 59) = (S_X12_saysSetup_46 mNum mBnm i n (L_X12_saysSetup_11 mNum mBnm i n)) := rfl
      have hCon := (c_X12_says l D A w13 α (k) mTaped mErr mPpl mBts mUs mRa mSt mKi mWd mVal mLet mFin mNp mNb ((S_X12_saysSetup_40 mNum mBnm i n (L_X12_saysSetup_11 mNum mBnm i n)).2) ((S_X12_saysSetup_2 i).2.2) ((S_X12_saysSetup_40 mNum mBnm i n (L_X12_saysSetup_11 mNum mBnm i n)).1) mTape mNum mNam mFst mBnm mW mUn mSl mKp mnNum mnNam mnBo mnBn 59 hB0)
      rw [hNm] at hCon
      refine g_aft0 (st1 := []) (g_V (As := [.int 59]) (rest := []) S mi_X12_says qw1911 hCon hK hP hD hE hS (hB0 0 _ rfl) rfl rfl rfl hl.1 (Nat.le_of_ble_eq_true rfl) rfl rfl ⟨(Nat.le_of_ble_eq_true rfl), (Nat.le_of_ble_eq_true rfl)⟩ ⟨(Nat.le_of_ble_eq_true rfl), (Nat.le_of_ble_eq_true rfl)⟩ dX12_saysSetup_46) hS rfl (fun w14 H locs hQ hP hD hS => ?_)
      have hF := hF.trans hQ.2
      have hB0 : Blk w14 k (cM D α k mTaped mErr mPpl mBts mUs mRa mSt mKi mWd mVal mLet mFin mNp mNb ((S_X12_saysSetup_46 mNum mBnm i n (L_X12_saysSetup_11 mNum mBnm i n)).2) ((S_X12_saysSetup_2 i).2.2) ((S_X12_saysSetup_46 mNum mBnm i n (L_X12_saysSetup_11 mNum mBnm i n)).1) mTape mNum mNam mFst mBnm mW mUn mSl mKp mnNum mnNam mnBo mnBn) := hQ.1
      refine lv_iinc (v := (nI (n + 1))) (lv' := [(2, .int (nI (n + 1))), (0, .ref (α (k))), (1, .int i)]) S.1 S.2.1 dX12_saysSetup_49 hl (k := 0) rfl ((nI_succ n).symm) (by decide) rfl (fun ls hl => ?_)
      refine lv_goto (tgt := 11) S.1 S.2.1 dX12_saysSetup_52 (by decide) ?_
      have hL : (L_X12_saysSetup_11 mNum mBnm i (n + 1)) = ((S_X12_saysSetup_46 mNum mBnm i n (L_X12_saysSetup_11 mNum mBnm i n)).1, (S_X12_saysSetup_46 mNum mBnm i n (L_X12_saysSetup_11 mNum mBnm i n)).2) := (iter_s _ _ _).trans (show (G_X12_saysSetup_11 mNum mBnm i n (L_X12_saysSetup_11 mNum mBnm i n)) = ((S_X12_saysSetup_46 mNum mBnm i n (L_X12_saysSetup_11 mNum mBnm i n)).1, (S_X12_saysSetup_46 mNum mBnm i n (L_X12_saysSetup_11 mNum mBnm i n)).2) from rfl)
      refine ih (n + 1) (lp_n hn) _ _ _ _ hP hD hS hF ?_ ?_
      · rw [hL]; (try dsimp only); exact hB0
      · exact lv_sub hl [0, 1, 2] rfl
  have hL0 : (L_X12_saysSetup_11 mNum mBnm i 0) = ((S_X12_saysSetup_6 mNum i).1, (S_X12_saysSetup_6 mNum i).2) := iter_z _ _
  exact lp11 mBts.toNatClampNeg 0 (Nat.zero_add mBts.toNatClampNeg) _ _ _ _ hP hD hS hF (by rw [hL0]; exact hB0) (lv_sub hl [0, 1, 2] rfl)
noncomputable def S_X12_setupLength_2 (mPpl : Int32) (mBts : Int32) (mNum : Nat → Int32) (mNam : Nat → Int32) (mBnm : Nat → Int32) (mW : Nat → Int32) : Int32 × Int32 × Int32 := (f_X12_saysSetup mPpl mBts mNum mNam mBnm mW (-1))
noncomputable def f_X12_setupLength (mPpl : Int32) (mBts : Int32) (mNum : Nat → Int32) (mNam : Nat → Int32) (mBnm : Nat → Int32) (mW : Nat → Int32) : Int32 × Int32 × Int32 × Int32 := ((S_X12_setupLength_2 mPpl mBts mNum mNam mBnm mW).2.1, (S_X12_setupLength_2 mPpl mBts mNum mNam mBnm mW).1, (S_X12_setupLength_2 mPpl mBts mNum mNam mBnm mW).2.1, (S_X12_setupLength_2 mPpl mBts mNum mNam mBnm mW).2.2)
set_option maxHeartbeats 4000000 in
set_option maxRecDepth 100000 in
theorem c_X12_setupLength (l : Launch) (D : va_G) (A : Nat → Prop) (w : va_W) (α : Nat → Nat) (k : Nat) (mTaped : Int32) (mErr : Int32) (mPpl : Int32) (mBts : Int32) (mUs : Int32) (mRa : Int32) (mSt : Int32) (mKi : Int32) (mWd : Int64) (mVal : Int32) (mLet : Int32) (mFin : Int32) (mNp : Int32) (mNb : Int32) (mOuts : Int32) (mWant : Int32) (mFnd : Int32) (mTape : Nat → Int32) (mNum : Nat → Int32) (mNam : Nat → Int32) (mFst : Nat → Int32) (mBnm : Nat → Int32) (mW : Nat → Int32) (mUn : Nat → Int32) (mSl : Nat → Int32) (mKp : Nat → Int32) (mnNum : Nat → Int32) (mnNam : Nat → Int32) (mnBo : Nat → Int32) (mnBn : Nat → Int32) (hB0 : Blk w k (cM D α k mTaped mErr mPpl mBts mUs mRa mSt mKi mWd mVal mLet mFin mNp mNb mOuts mWant mFnd mTape mNum mNam mFst mBnm mW mUn mSl mKp mnNum mnNam mnBo mnBn)) (hy0 : vp_in mPpl 21) (hy1 : vp_in mBts 7) (hy2 : ∀ q, vp_in q 20 → ¬ f_X12_of mW q 0 < 0 → vp_in (f_X12_of mW q 0) 6) : Met l yX12_setupLength (ws_ yX12_setupLength cX12_setupLength 1 (some .int)) ({ frames := 5, cells := 0, slots := 0, locals := 112 }) (gPre D A [.ref (α (k))] w) (gQ D A (some (.int (f_X12_setupLength mPpl mBts mNum mNam mBnm mW).1)) (fun w1 => Blk w1 k (cM D α k mTaped mErr mPpl mBts mUs mRa mSt mKi mWd mVal mLet mFin mNp mNb ((f_X12_setupLength mPpl mBts mNum mNam mBnm mW).2.2.1) ((f_X12_setupLength mPpl mBts mNum mNam mBnm mW).2.2.2) ((f_X12_setupLength mPpl mBts mNum mNam mBnm mW).2.1) mTape mNum mNam mFst mBnm mW mUn mSl mKp mnNum mnNam mnBo mnBn) ∧ Same w w1 k 14)) 0 0 A := by
  refine g_met [(0, .ref (α (k)))] (plainFor_of_name (by decide)) (Nat.le_of_ble_eq_true rfl) rfl (fun pg en s mi ar below me co ls S hK hP hD hE hS hr hlk hnm hl => ?_)
  have hF : Same w w k 14 := Same.rf
  refine lv_aload_n S.1 S.2.1 dX12_setupLength_0 rfl (lv_at hl 0 rfl) ?_
  refine lv_iconst (v := (-1)) S.1 S.2.1 dX12_setupLength_1 (by decide) ?_
  have hNm : (f_X12_saysSetup mPpl mBts mNum mNam mBnm mW (-1)) = (S_X12_setupLength_2 mPpl mBts mNum mNam mBnm mW) := rfl
  have hCon := (c_X12_saysSetup l D A w α (k) mTaped mErr mPpl mBts mUs mRa mSt mKi mWd mVal mLet mFin mNp mNb mOuts mWant mFnd mTape mNum mNam mFst mBnm mW mUn mSl mKp mnNum mnNam mnBo mnBn (-1) hB0 (by first | assumption | exact vin_d (by decide) | exact vp_in_nI (by omega) (by decide) | decide | omega) (by first | assumption | exact vin_d (by decide) | exact vp_in_nI (by omega) (by decide) | decide | omega) (by first | assumption | exact vin_d (by decide) | exact vp_in_nI (by omega) (by decide) | decide | omega))
  rw [hNm] at hCon
  refine g_aft0 (st1 := []) (g_V (As := [.int (-1)]) (rest := []) S mi_X12_saysSetup qw1952 hCon hK hP hD hE hS (hB0 0 _ rfl) rfl rfl rfl hl.1 (Nat.le_of_ble_eq_true rfl) rfl rfl ⟨(Nat.le_of_ble_eq_true rfl), (Nat.le_of_ble_eq_true rfl)⟩ ⟨(Nat.le_of_ble_eq_true rfl), (Nat.le_of_ble_eq_true rfl)⟩ dX12_setupLength_2) hS rfl (fun w1 H locs hQ hP hD hS => ?_)
  have hF := hF.trans hQ.2
  have hB0 : Blk w1 k (cM D α k mTaped mErr mPpl mBts mUs mRa mSt mKi mWd mVal mLet mFin mNp mNb ((S_X12_setupLength_2 mPpl mBts mNum mNam mBnm mW).2.1) ((S_X12_setupLength_2 mPpl mBts mNum mNam mBnm mW).2.2) ((S_X12_setupLength_2 mPpl mBts mNum mNam mBnm mW).1) mTape mNum mNam mFst mBnm mW mUn mSl mKp mnNum mnNam mnBo mnBn) := hQ.1
  refine lv_aload_n S.1 S.2.1 dX12_setupLength_5 rfl (lv_at hl 0 rfl) ?_
  refine g_get (v := .int ((S_X12_setupLength_2 mPpl mBts mNum mNam mBnm mW).2.1)) S hK hP (hB0 0 _ rfl) rfl inX12 27 (by decide) qw1401 rfl dX12_setupLength_6 ?_
  have hf : (f_X12_setupLength mPpl mBts mNum mNam mBnm mW) = ((S_X12_setupLength_2 mPpl mBts mNum mNam mBnm mW).2.1, (S_X12_setupLength_2 mPpl mBts mNum mNam mBnm mW).1, (S_X12_setupLength_2 mPpl mBts mNum mNam mBnm mW).2.1, (S_X12_setupLength_2 mPpl mBts mNum mNam mBnm mW).2.2) := rfl
  exact g_iret S hr hlk hP hD hS (by rw [hf] <;> rfl) (⟨by rw [hf]; dsimp only; exact hB0, hF⟩) dX12_setupLength_9
noncomputable def S_X12_setupByte_8 (mPpl : Int32) (mBts : Int32) (mNum : Nat → Int32) (mNam : Nat → Int32) (mBnm : Nat → Int32) (mW : Nat → Int32) (i : Int32) : Int32 × Int32 × Int32 := (f_X12_saysSetup mPpl mBts mNum mNam mBnm mW i)
noncomputable def f_X12_setupByte (mPpl : Int32) (mBts : Int32) (mOuts : Int32) (mWant : Int32) (mFnd : Int32) (mNum : Nat → Int32) (mNam : Nat → Int32) (mBnm : Nat → Int32) (mW : Nat → Int32) (i : Int32) : Int32 × Int32 × Int32 × Int32 := (if 0 ≤ i then ((S_X12_setupByte_8 mPpl mBts mNum mNam mBnm mW i).1, (S_X12_setupByte_8 mPpl mBts mNum mNam mBnm mW i).1, (S_X12_setupByte_8 mPpl mBts mNum mNam mBnm mW i).2.1, (S_X12_setupByte_8 mPpl mBts mNum mNam mBnm mW i).2.2) else ((-1), mFnd, mOuts, mWant))
set_option maxHeartbeats 4000000 in
set_option maxRecDepth 100000 in
theorem c_X12_setupByte (l : Launch) (D : va_G) (A : Nat → Prop) (w : va_W) (α : Nat → Nat) (k : Nat) (mTaped : Int32) (mErr : Int32) (mPpl : Int32) (mBts : Int32) (mUs : Int32) (mRa : Int32) (mSt : Int32) (mKi : Int32) (mWd : Int64) (mVal : Int32) (mLet : Int32) (mFin : Int32) (mNp : Int32) (mNb : Int32) (mOuts : Int32) (mWant : Int32) (mFnd : Int32) (mTape : Nat → Int32) (mNum : Nat → Int32) (mNam : Nat → Int32) (mFst : Nat → Int32) (mBnm : Nat → Int32) (mW : Nat → Int32) (mUn : Nat → Int32) (mSl : Nat → Int32) (mKp : Nat → Int32) (mnNum : Nat → Int32) (mnNam : Nat → Int32) (mnBo : Nat → Int32) (mnBn : Nat → Int32) (i : Int32) (hB0 : Blk w k (cM D α k mTaped mErr mPpl mBts mUs mRa mSt mKi mWd mVal mLet mFin mNp mNb mOuts mWant mFnd mTape mNum mNam mFst mBnm mW mUn mSl mKp mnNum mnNam mnBo mnBn)) (hy0 : vp_in mPpl 21) (hy1 : vp_in mBts 7) (hy2 : ∀ q, vp_in q 20 → ¬ f_X12_of mW q 0 < 0 → vp_in (f_X12_of mW q 0) 6) : Met l yX12_setupByte (ws_ yX12_setupByte cX12_setupByte 2 (some .int)) ({ frames := 5, cells := 0, slots := 0, locals := 112 }) (gPre D A [.ref (α (k)), .int i] w) (gQ D A (some (.int (f_X12_setupByte mPpl mBts mOuts mWant mFnd mNum mNam mBnm mW i).1)) (fun w1 => Blk w1 k (cM D α k mTaped mErr mPpl mBts mUs mRa mSt mKi mWd mVal mLet mFin mNp mNb ((f_X12_setupByte mPpl mBts mOuts mWant mFnd mNum mNam mBnm mW i).2.2.1) ((f_X12_setupByte mPpl mBts mOuts mWant mFnd mNum mNam mBnm mW i).2.2.2) ((f_X12_setupByte mPpl mBts mOuts mWant mFnd mNum mNam mBnm mW i).2.1) mTape mNum mNam mFst mBnm mW mUn mSl mKp mnNum mnNam mnBo mnBn) ∧ Same w w1 k 14)) 0 0 A := by
  refine g_met [(0, .ref (α (k))), (1, .int i)] (plainFor_of_name (by decide)) (Nat.le_of_ble_eq_true rfl) rfl (fun pg en s mi ar below me co ls S hK hP hD hE hS hr hlk hnm hl => ?_)
  have hF : Same w w k 14 := Same.rf
  refine lv_iload_n S.1 S.2.1 dX12_setupByte_0 rfl (lv_at hl 1 rfl) ?_
  refine lv_if_ge (tgt := 6) S.1 S.2.1 dX12_setupByte_1 (by decide) (fun (c1 : 0 ≤ i) => ?_) (fun (c1 : ¬ 0 ≤ i) => ?_)
  · refine lv_aload_n S.1 S.2.1 dX12_setupByte_6 rfl (lv_at hl 0 rfl) ?_
    refine lv_iload_n S.1 S.2.1 dX12_setupByte_7 rfl (lv_at hl 1 rfl) ?_
    have hNm : (f_X12_saysSetup mPpl mBts mNum mNam mBnm mW i) = (S_X12_setupByte_8 mPpl mBts mNum mNam mBnm mW i) := rfl
    have hCon := (c_X12_saysSetup l D A w α (k) mTaped mErr mPpl mBts mUs mRa mSt mKi mWd mVal mLet mFin mNp mNb mOuts mWant mFnd mTape mNum mNam mFst mBnm mW mUn mSl mKp mnNum mnNam mnBo mnBn i hB0 (by first | assumption | exact vin_d (by decide) | exact vp_in_nI (by omega) (by decide) | decide | omega) (by first | assumption | exact vin_d (by decide) | exact vp_in_nI (by omega) (by decide) | decide | omega) (by first | assumption | exact vin_d (by decide) | exact vp_in_nI (by omega) (by decide) | decide | omega))
    rw [hNm] at hCon
    refine g_aft0 (st1 := []) (g_V (As := [.int i]) (rest := []) S mi_X12_saysSetup qw1952 hCon hK hP hD hE hS (hB0 0 _ rfl) rfl rfl rfl hl.1 (Nat.le_of_ble_eq_true rfl) rfl rfl ⟨(Nat.le_of_ble_eq_true rfl), (Nat.le_of_ble_eq_true rfl)⟩ ⟨(Nat.le_of_ble_eq_true rfl), (Nat.le_of_ble_eq_true rfl)⟩ dX12_setupByte_8) hS rfl (fun w1 H locs hQ hP hD hS => ?_)
    have hF := hF.trans hQ.2
    have hB0 : Blk w1 k (cM D α k mTaped mErr mPpl mBts mUs mRa mSt mKi mWd mVal mLet mFin mNp mNb ((S_X12_setupByte_8 mPpl mBts mNum mNam mBnm mW i).2.1) ((S_X12_setupByte_8 mPpl mBts mNum mNam mBnm mW i).2.2) ((S_X12_setupByte_8 mPpl mBts mNum mNam mBnm mW i).1) mTape mNum mNam mFst mBnm mW mUn mSl mKp mnNum mnNam mnBo mnBn) := hQ.1
    refine lv_aload_n S.1 S.2.1 dX12_setupByte_11 rfl (lv_at hl 0 rfl) ?_
    refine g_get (v := .int ((S_X12_setupByte_8 mPpl mBts mNum mNam mBnm mW i).1)) S hK hP (hB0 0 _ rfl) rfl inX12 29 (by decide) qw1403 rfl dX12_setupByte_12 ?_
    have hf : (f_X12_setupByte mPpl mBts mOuts mWant mFnd mNum mNam mBnm mW i) = ((S_X12_setupByte_8 mPpl mBts mNum mNam mBnm mW i).1, (S_X12_setupByte_8 mPpl mBts mNum mNam mBnm mW i).1, (S_X12_setupByte_8 mPpl mBts mNum mNam mBnm mW i).2.1, (S_X12_setupByte_8 mPpl mBts mNum mNam mBnm mW i).2.2) := if_pos c1
    exact g_iret S hr hlk hP hD hS (by rw [hf] <;> rfl) (⟨by rw [hf]; dsimp only; exact hB0, hF⟩) dX12_setupByte_15
  · refine lv_iconst (v := (-1)) S.1 S.2.1 dX12_setupByte_4 (by decide) ?_
    have hf : (f_X12_setupByte mPpl mBts mOuts mWant mFnd mNum mNam mBnm mW i) = ((-1), mFnd, mOuts, mWant) := if_neg c1
    exact g_iret S hr hlk hP hD hS (by rw [hf] <;> rfl) (⟨by rw [hf]; dsimp only; exact hB0, hF⟩) dX12_setupByte_5
