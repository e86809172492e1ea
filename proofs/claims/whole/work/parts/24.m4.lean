def J_X12_resultOf_32 (more : Int32) (into : Int32) (n : Nat) : Int32 := (if (nI n) = into then more else 0)
def J_X12_resultOf_61 (mPpl : Int32) (mW : Nat → Int32) (wo : Int32) (more : Int32) (into : Int32) (n : Nat) (sn : Int32 × Int32 × Int32) : Int32 := (if (f_X12_ones (((f_X12_setIn mPpl mW (nI n)) &&& (wo ^^^ (-1))) ||| (J_X12_resultOf_32 more into n))) ≤ sn.2.1 then (if (f_X12_ones (((f_X12_setIn mPpl mW (nI n)) &&& (wo ^^^ (-1))) ||| (J_X12_resultOf_32 more into n))) = sn.2.1 then (sn.1 ||| (((f_X12_setIn mPpl mW (nI n)) &&& (wo ^^^ (-1))) ||| (J_X12_resultOf_32 more into n))) else sn.1) else (((f_X12_setIn mPpl mW (nI n)) &&& (wo ^^^ (-1))) ||| (J_X12_resultOf_32 more into n)))
def J_X12_resultOf_92 (mPpl : Int32) (mW : Nat → Int32) (wo : Int32) (more : Int32) (into : Int32) (n : Nat) (sn : Int32 × Int32 × Int32) : Int32 := (if (f_X12_ones (((f_X12_setIn mPpl mW (nI n)) &&& (wo ^^^ (-1))) ||| (J_X12_resultOf_32 more into n))) ≤ sn.2.1 then sn.2.1 else (f_X12_ones (((f_X12_setIn mPpl mW (nI n)) &&& (wo ^^^ (-1))) ||| (J_X12_resultOf_32 more into n))))
def L_X12_resultOf_12 (mPpl : Int32) (mW : Nat → Int32) (wo : Int32) (more : Int32) (into : Int32) : Nat → Int32 × Int32 × Int32 := iter_ (fun n sn => ((J_X12_resultOf_61 mPpl mW wo more into n sn), (J_X12_resultOf_92 mPpl mW wo more into n sn), (sn.2.2 + (f_X12_ones (((f_X12_setIn mPpl mW (nI n)) &&& (wo ^^^ (-1))) ||| (J_X12_resultOf_32 more into n)))))) (0, 0, 0)
def f_X12_resultOf (mPpl : Int32) (mW : Nat → Int32) (need : Int32) (wo : Int32) (more : Int32) (into : Int32) : Int32 := (if (L_X12_resultOf_12 mPpl mW wo more into 4).2.2 < need then (-2) else (if (L_X12_resultOf_12 mPpl mW wo more into 4).2.2 = 0 then (-2) else (if ((more >>> ((nI (wh_ (fun k => decide (¬ (((L_X12_resultOf_12 mPpl mW wo more into 4).1 >>> ((nI k) &&& 31)) &&& 1) = 0)) 19)) &&& 31)) &&& 1) = 1 then into else (f_X12_of mW (nI (wh_ (fun k => decide (¬ (((L_X12_resultOf_12 mPpl mW wo more into 4).1 >>> ((nI k) &&& 31)) &&& 1) = 0)) 19)) 8))))
theorem b_1 {k : Nat} (h : 0 < k) : bt 1 k = false := by
  by_cases hk : k < 32
  · have : ∀ k, k < 32 → 0 < k → bt 1 k = false := by decide +kernel
    exact this k hk h
  · exact b_big (by omega)
def low20 (x : Int32) : Prop := ∀ i, 20 ≤ i → bt x i = false
theorem low20_0 : low20 0 := fun i _ => b_0 i
theorem low20_or {x y : Int32} (hx : low20 x) (hy : low20 y) : low20 (x ||| y) := fun i hi => by rw [b_or, hx i hi, hy i hi]; rfl
theorem low20_and {x y : Int32} (hx : low20 x) : low20 (x &&& y) := fun i hi => by rw [b_and, hx i hi]; rfl
theorem bit_sh {n : Nat} (hn : n < 32) (i : Nat) : bt ((1 : Int32) <<< (nI n &&& 31)) i = decide (i = n) := by
  by_cases hi : i < 32
  · rw [b_shl n hn 1 hi]
    by_cases e : i = n
    · subst e
      simp only [Nat.sub_self, Nat.le_refl, decide_true, Bool.true_and]
      rfl
    · rw [decide_eq_false e]
      by_cases q : n ≤ i
      · rw [b_1 (by omega), Bool.and_false]
      · rw [decide_eq_false q, Bool.false_and]
  · rw [b_big (by omega), decide_eq_false (by omega)]
theorem low20_bit {n : Nat} (hn : n < 20) : low20 ((1 : Int32) <<< (nI n &&& 31)) := fun i hi => by
  rw [bit_sh (by omega), decide_eq_false (by omega)]
theorem sh_bit (x : Int32) {n : Nat} (hn : n < 32) : ((x >>> (nI n &&& 31)) &&& 1) = (if bt x n then 1 else 0) := by
  refine b_ext fun i hi => ?_
  rw [b_and, b_sshr n hn x hi]
  by_cases h : i = 0
  · subst h
    rw [if_pos (by omega), Nat.add_zero]
    cases bt x n <;> rfl
  · rw [b_1 (by omega), Bool.and_false]
    cases bt x n
    · exact (b_0 i).symm
    · exact (b_1 (by omega)).symm
theorem sh_bit0 (x : Int32) {n : Nat} (hn : n < 32) : ((x >>> (nI n &&& 31)) &&& 1) = 0 ↔ bt x n = false := by
  rw [sh_bit x hn]
  cases bt x n <;> decide
theorem sh_bit1 (x : Int32) {n : Nat} (hn : n < 32) : ((x >>> (nI n &&& 31)) &&& 1) = 1 ↔ bt x n = true := by
  rw [sh_bit x hn]
  cases bt x n <;> decide
theorem low_ex {x : Int32} (h0 : ¬ x = 0) (hl : low20 x) : ∃ n, n ≤ 19 ∧ bt x n = true := by
  refine Classical.byContradiction fun hn => h0 (b_ext fun i _ => ?_)
  rw [b_0]
  by_cases hi : 20 ≤ i
  · exact hl i hi
  · cases h : bt x i
    · rfl
    · exact absurd ⟨i, by omega, h⟩ hn
theorem or_ne {a b : Int32} (h : ¬ a = 0) : ¬ (a ||| b) = 0 := fun e => h (b_ext fun i _ => by
  have q := congrArg (fun z => bt z i) e
  simp only [b_or, b_0] at q
  rw [b_0]
  cases ha : bt a i
  · rfl
  · rw [ha] at q; cases q)
theorem ones_snd (x : Int32) (n : Nat) : (L_X12_ones_4 x n).2 = nI n :=
  iter_inv (fun n (s : Int32 × Int32) => s.2 = nI n) nI_0.symm (fun n s _ h => by show s.2 + 1 = nI (n + 1); rw [h, nI_succ]) n (Nat.le_refl n)
theorem ones_nI (x : Int32) : f_X12_ones x = nI (wh_ (fun k => decide ((L_X12_ones_4 x k).1 = 0)) 32) := ones_snd x _
theorem ones_fst0 (x : Int32) : (L_X12_ones_4 x 0).1 = x := congrArg Prod.fst (iter_z _ _)
theorem ones_0 : f_X12_ones 0 = 0 := by
  rw [ones_nI, wh_, ones_fst0]
  rfl
theorem ones_nn (x : Int32) : 0 ≤ f_X12_ones x := by
  rw [ones_nI]
  exact nI_pos' (Nat.lt_of_le_of_lt wh_le (by decide))
theorem ones_pos {x : Int32} (h : ¬ x = 0) : ¬ f_X12_ones x = 0 := by
  rw [ones_nI, wh_, ones_fst0, decide_eq_false h]
  refine nI_ne0 (by show 0 < 1 + _; omega) ?_
  show 1 + _ < 2 ^ 31
  have := @wh_le 31 (fun n => decide ((L_X12_ones_4 x (n + 1)).1 = 0))
  omega
theorem setIn_lowL {mPpl : Int32} {mW : Nat → Int32} {b : Int32} (h : vp_in mPpl 21) : ∀ n, n ≤ mPpl.toNatClampNeg → low20 (L_X12_setIn_4 mW b n) := by
  have hn := vin_lt h
  refine iter_inv (fun _ (s : Int32) => low20 s) low20_0 (fun n s hk hs => ?_)
  have hb := low20_bit (n := n) (by omega)
  show low20 (ite _ (ite _ _ _) _)
  split
  · split
    · exact low20_or hs hb
    · exact low20_or hs low20_0
  · exact low20_or hs low20_0
theorem setIn_low {mPpl : Int32} {mW : Nat → Int32} {b : Int32} (h : vp_in mPpl 21) : low20 (f_X12_setIn mPpl mW b) := setIn_lowL h _ (Nat.le_refl _)
theorem lead_step {mo le al S o : Int32} (hl : low20 le) (hS : low20 S) (ho0 : S = 0 → o = 0) (hon : 0 ≤ o) (h1 : 0 ≤ mo) (h2 : ¬ mo = 0 → ¬ le = 0) (h3 : mo = 0 → al = 0) :
    low20 (if o ≤ mo then (if o = mo then le ||| S else le) else S) ∧ 0 ≤ (if o ≤ mo then mo else o) ∧ (¬ (if o ≤ mo then mo else o) = 0 → ¬ (if o ≤ mo then (if o = mo then le ||| S else le) else S) = 0) ∧ ((if o ≤ mo then mo else o) = 0 → al + o = 0) := by
  have z : (0 : Int32).toInt = 0 := rfl
  have a1 := Int32.le_iff_toInt_le.mp hon
  have a2 := Int32.le_iff_toInt_le.mp h1
  by_cases c : o ≤ mo
  · rw [if_pos c, if_pos c]
    have a3 := Int32.le_iff_toInt_le.mp c
    by_cases d : o = mo
    · rw [if_pos d]
      exact ⟨low20_or hl hS, h1, fun q => or_ne (h2 q), fun q => by rw [h3 q, d, q]; rfl⟩
    · rw [if_neg d]
      exact ⟨hl, h1, h2, fun q => absurd (by rw [q] at a3; rw [q]; exact Int32.toInt_inj.mp (by omega)) d⟩
  · rw [if_neg c, if_neg c]
    have a3 : ¬ o.toInt ≤ mo.toInt := fun q => c (Int32.le_iff_toInt_le.mpr q)
    exact ⟨hS, hon, fun q e => q (ho0 e), fun q => by rw [q] at a3; omega⟩
theorem lead_ex {mPpl : Int32} {mW : Nat → Int32} {wo more into : Int32} (h : vp_in mPpl 21) (hm : low20 more) (h2 : ¬ (L_X12_resultOf_12 mPpl mW wo more into 4).2.2 = 0) : ∃ n, n ≤ 19 ∧ ¬ (((L_X12_resultOf_12 mPpl mW wo more into 4).1 >>> ((nI n) &&& 31)) &&& 1) = 0 := by
  have key : ∀ n, n ≤ 4 → (fun (s : Int32 × Int32 × Int32) => low20 s.1 ∧ 0 ≤ s.2.1 ∧ (¬ s.2.1 = 0 → ¬ s.1 = 0) ∧ (s.2.1 = 0 → s.2.2 = 0)) (L_X12_resultOf_12 mPpl mW wo more into n) := by
    refine iter_inv (fun _ (s : Int32 × Int32 × Int32) => low20 s.1 ∧ 0 ≤ s.2.1 ∧ (¬ s.2.1 = 0 → ¬ s.1 = 0) ∧ (s.2.1 = 0 → s.2.2 = 0)) ⟨low20_0, by decide, fun q => absurd rfl q, fun _ => rfl⟩ (fun n s hn hs => ?_)
    obtain ⟨i1, i2, i3, i4⟩ := hs
    have hJ : low20 (J_X12_resultOf_32 more into n) := by
      unfold J_X12_resultOf_32
      by_cases c : nI n = into
      · rw [if_pos c]; exact hm
      · rw [if_neg c]; exact low20_0
    exact lead_step i1 (low20_or (low20_and (setIn_low h)) hJ) (fun e => by rw [e]; exact ones_0) (ones_nn _) i2 i3 i4
  obtain ⟨i1, i2, i3, i4⟩ := key 4 (Nat.le_refl _)
  obtain ⟨n, h3, h4⟩ := low_ex (i3 (fun q => h2 (i4 q))) i1
  exact ⟨n, h3, fun q => by rw [(sh_bit0 _ (by omega)).mp q] at h4; cases h4⟩
set_option maxHeartbeats 4000000 in
set_option maxRecDepth 100000 in
theorem c_X12_resultOf (l : Launch) (D : va_G) (A : Nat → Prop) (w : va_W) (α : Nat → Nat) (k : Nat) (mTaped : Int32) (mErr : Int32) (mPpl : Int32) (mBts : Int32) (mUs : Int32) (mRa : Int32) (mSt : Int32) (mKi : Int32) (mWd : Int64) (mVal : Int32) (mLet : Int32) (mFin : Int32) (mNp : Int32) (mNb : Int32) (mOuts : Int32) (mWant : Int32) (mFnd : Int32) (mTape : Nat → Int32) (mNum : Nat → Int32) (mNam : Nat → Int32) (mFst : Nat → Int32) (mBnm : Nat → Int32) (mW : Nat → Int32) (mUn : Nat → Int32) (mSl : Nat → Int32) (mKp : Nat → Int32) (mnNum : Nat → Int32) (mnNam : Nat → Int32) (mnBo : Nat → Int32) (mnBn : Nat → Int32) (need : Int32) (wo : Int32) (more : Int32) (into : Int32) (hB0 : Blk w k (cM D α k mTaped mErr mPpl mBts mUs mRa mSt mKi mWd mVal mLet mFin mNp mNb mOuts mWant mFnd mTape mNum mNam mFst mBnm mW mUn mSl mKp mnNum mnNam mnBo mnBn)) (hy0 : vp_in mPpl 21) (hy1 : low20 more) : Met l yX12_resultOf (ws_ yX12_resultOf cX12_resultOf 11 (some .int)) ({ frames := 2, cells := 0, slots := 0, locals := 45 }) (gPre D A [.ref (α (k)), .int need, .int wo, .int more, .int into] w) (gR (some (.int (f_X12_resultOf mPpl mW need wo more into)))) 0 0 A := by
  refine g_met [(0, .ref (α (k))), (1, .int need), (2, .int wo), (3, .int more), (4, .int into)] (plainFor_of_name (by decide)) (Nat.le_of_ble_eq_true rfl) rfl (fun pg en s mi ar below me co ls S hK hP hD hE hS hr hlk hnm hl => ?_)
  have hpn := vin_lt (show vp_in mPpl 21 by assumption)
  refine lv_iconst (v := 0) S.1 S.2.1 dX12_resultOf_0 (by decide) ?_
  refine lv_istore (lv' := [(5, .int 0), (0, .ref (α (k))), (1, .int need), (2, .int wo), (3, .int more), (4, .int into)]) S.1 S.2.1 dX12_resultOf_1 hl (by decide) rfl (fun ls hl => ?_)
  refine lv_iconst (v := 0) S.1 S.2.1 dX12_resultOf_3 (by decide) ?_
  refine lv_istore (lv' := [(6, .int 0), (5, .int 0), (0, .ref (α (k))), (1, .int need), (2, .int wo), (3, .int more), (4, .int into)]) S.1 S.2.1 dX12_resultOf_4 hl (by decide) rfl (fun ls hl => ?_)
  refine lv_iconst (v := 0) S.1 S.2.1 dX12_resultOf_6 (by decide) ?_
  refine lv_istore (lv' := [(7, .int 0), (6, .int 0), (5, .int 0), (0, .ref (α (k))), (1, .int need), (2, .int wo), (3, .int more), (4, .int into)]) S.1 S.2.1 dX12_resultOf_7 hl (by decide) rfl (fun ls hl => ?_)
  refine lv_iconst (v := 0) S.1 S.2.1 dX12_resultOf_9 (by decide) ?_
  refine lv_istore (lv' := [(8, .int 0), (7, .int 0), (6, .int 0), (5, .int 0), (0, .ref (α (k))), (1, .int need), (2, .int wo), (3, .int more), (4, .int into)]) S.1 S.2.1 dX12_resultOf_10 hl (by decide) rfl (fun ls hl => ?_)
  have lp12 : ∀ (j n : Nat), n + j = 4 → ∀ (locs : List Loc) (ls : Array Slot), va_S A s.heap s.heap locs → lv_has ls 11 [(8, .int (nI n)), (7, .int ((L_X12_resultOf_12 mPpl mW wo more into n).1)), (6, .int ((L_X12_resultOf_12 mPpl mW wo more into n).2.1)), (5, .int ((L_X12_resultOf_12 mPpl mW wo more into n).2.2)), (0, .ref (α (k))), (1, .int need), (2, .int wo), (3, .int more), (4, .int into)] → W pg l en ({ frames := 2, cells := 0, slots := 0, locals := 45 } : Room) s mi ar below me co s.heap locs 0 0 (MQ below (gR (some (.int (f_X12_resultOf mPpl mW need wo more into)))) ar s 0 0 A) (F0 mi 12 ls []) := by
    intro j
    induction j with
    | zero =>
      intro n hn locs ls hS hl
      have hn : 4 = n := hn.symm
      subst hn
      refine lv_iload S.1 S.2.1 dX12_resultOf_12 (lv_at hl 0 rfl) ?_
      refine lv_iconst (v := 4) S.1 S.2.1 dX12_resultOf_14 (by decide) ?_
      refine lv_icmp_ge (tgt := 110) S.1 S.2.1 dX12_resultOf_15 (by decide) (fun (c1 : 4 ≤ (nI 4)) => ?_) (fun (c1 : ¬ 4 ≤ (nI 4)) => absurd c1 (lp_out (s := 0) (by decide)))
      refine lv_iload S.1 S.2.1 dX12_resultOf_110 (lv_at hl 3 rfl) ?_
      refine lv_iload_n S.1 S.2.1 dX12_resultOf_112 rfl (lv_at hl 5 rfl) ?_
      refine lv_icmp_lt (tgt := 121) S.1 S.2.1 dX12_resultOf_113 (by decide) (fun (c2 : (L_X12_resultOf_12 mPpl mW wo more into 4).2.2 < need) => ?_) (fun (c2 : ¬ (L_X12_resultOf_12 mPpl mW wo more into 4).2.2 < need) => ?_)
      · refine lv_bipush (v := (-2)) S.1 S.2.1 dX12_resultOf_121 (by decide) ?_
        have hf : (f_X12_resultOf mPpl mW need wo more into) = (-2) := if_pos c2
        exact g_iretR S hr hlk hS (by rw [hf] <;> rfl) dX12_resultOf_123
      · refine lv_iload S.1 S.2.1 dX12_resultOf_116 (lv_at hl 3 rfl) ?_
        refine lv_if_ne (tgt := 124) S.1 S.2.1 dX12_resultOf_118 (by decide) (fun (c3 : ¬ (L_X12_resultOf_12 mPpl mW wo more into 4).2.2 = 0) => ?_) (fun (c3 : (L_X12_resultOf_12 mPpl mW wo more into 4).2.2 = 0) => ?_)
        · refine lv_iconst (v := 0) S.1 S.2.1 dX12_resultOf_124 (by decide) ?_
          refine lv_istore (lv' := [(8, .int 0), (7, .int ((L_X12_resultOf_12 mPpl mW wo more into 4).1)), (6, .int ((L_X12_resultOf_12 mPpl mW wo more into 4).2.1)), (5, .int ((L_X12_resultOf_12 mPpl mW wo more into 4).2.2)), (0, .ref (α (k))), (1, .int need), (2, .int wo), (3, .int more), (4, .int into)]) S.1 S.2.1 dX12_resultOf_125 hl (by decide) rfl (fun ls hl => ?_)
          have lp127 : ∀ (j n : Nat), n + j = (wh_ (fun k => decide (¬ (((L_X12_resultOf_12 mPpl mW wo more into 4).1 >>> ((nI k) &&& 31)) &&& 1) = 0)) 19) → ∀ (locs : List Loc) (ls : Array Slot), va_S A s.heap s.heap locs → lv_has ls 11 [(8, .int (nI n)), (7, .int ((L_X12_resultOf_12 mPpl mW wo more into 4).1)), (6, .int ((L_X12_resultOf_12 mPpl mW wo more into 4).2.1)), (5, .int ((L_X12_resultOf_12 mPpl mW wo more into 4).2.2)), (0, .ref (α (k))), (1, .int need), (2, .int wo), (3, .int more), (4, .int into)] → W pg l en ({ frames := 2, cells := 0, slots := 0, locals := 45 } : Room) s mi ar below me co s.heap locs 0 0 (MQ below (gR (some (.int (f_X12_resultOf mPpl mW need wo more into)))) ar s 0 0 A) (F0 mi 127 ls []) := by
            intro j
            induction j with
            | zero =>
              intro n hn locs ls hS hl
              have hn : (wh_ (fun k => decide (¬ (((L_X12_resultOf_12 mPpl mW wo more into 4).1 >>> ((nI k) &&& 31)) &&& 1) = 0)) 19) = n := hn.symm
              subst hn
              refine lv_iload S.1 S.2.1 dX12_resultOf_127 (lv_at hl 1 rfl) ?_
              refine lv_iload S.1 S.2.1 dX12_resultOf_129 (lv_at hl 0 rfl) ?_
              refine lv_ishr S.1 S.2.1 dX12_resultOf_131 ?_
              refine lv_iconst (v := 1) S.1 S.2.1 dX12_resultOf_132 (by decide) ?_
              refine lv_iand S.1 S.2.1 dX12_resultOf_133 ?_
              refine lv_if_ne (tgt := 143) S.1 S.2.1 dX12_resultOf_134 (by decide) (fun (c4 : ¬ (((L_X12_resultOf_12 mPpl mW wo more into 4).1 >>> ((nI (wh_ (fun k => decide (¬ (((L_X12_resultOf_12 mPpl mW wo more into 4).1 >>> ((nI k) &&& 31)) &&& 1) = 0)) 19)) &&& 31)) &&& 1) = 0) => ?_) (fun (c4 : (((L_X12_resultOf_12 mPpl mW wo more into 4).1 >>> ((nI (wh_ (fun k => decide (¬ (((L_X12_resultOf_12 mPpl mW wo more into 4).1 >>> ((nI k) &&& 31)) &&& 1) = 0)) 19)) &&& 31)) &&& 1) = 0) => absurd c4 (fun h => wh_outP (lead_ex hy0 hy1 (by assumption)) (fun q => q h)))
              refine lv_iload_n S.1 S.2.1 dX12_resultOf_143 rfl (lv_at hl 7 rfl) ?_
              refine lv_iload S.1 S.2.1 dX12_resultOf_144 (lv_at hl 0 rfl) ?_
              refine lv_ishr S.1 S.2.1 dX12_resultOf_146 ?_
              refine lv_iconst (v := 1) S.1 S.2.1 dX12_resultOf_147 (by decide) ?_
              refine lv_iand S.1 S.2.1 dX12_resultOf_148 ?_
              refine lv_iconst (v := 1) S.1 S.2.1 dX12_resultOf_149 (by decide) ?_
              refine lv_icmp_ne (tgt := 158) S.1 S.2.1 dX12_resultOf_150 (by decide) (fun (c5 : ¬ ((more >>> ((nI (wh_ (fun k => decide (¬ (((L_X12_resultOf_12 mPpl mW wo more into 4).1 >>> ((nI k) &&& 31)) &&& 1) = 0)) 19)) &&& 31)) &&& 1) = 1) => ?_) (fun (c5 : ((more >>> ((nI (wh_ (fun k => decide (¬ (((L_X12_resultOf_12 mPpl mW wo more into 4).1 >>> ((nI k) &&& 31)) &&& 1) = 0)) 19)) &&& 31)) &&& 1) = 1) => ?_)
              · refine lv_aload_n S.1 S.2.1 dX12_resultOf_158 rfl (lv_at hl 4 rfl) ?_
                refine lv_iload S.1 S.2.1 dX12_resultOf_159 (lv_at hl 0 rfl) ?_
                refine lv_bipush (v := 8) S.1 S.2.1 dX12_resultOf_161 (by decide) ?_
                refine g_aftR0 (st1 := [.int (f_X12_of mW (nI (wh_ (fun k => decide (¬ (((L_X12_resultOf_12 mPpl mW wo more into 4).1 >>> ((nI k) &&& 31)) &&& 1) = 0)) 19)) 8)]) (g_V (As := [.int (nI (wh_ (fun k => decide (¬ (((L_X12_resultOf_12 mPpl mW wo more into 4).1 >>> ((nI k) &&& 31)) &&& 1) = 0)) 19)), .int 8]) (rest := []) S mi_X12_of qw1579 (c_X12_of l D A w α (k) mTaped mErr mPpl mBts mUs mRa mSt mKi mWd mVal mLet mFin mNp mNb mOuts mWant mFnd mTape mNum mNam mFst mBnm mW mUn mSl mKp mnNum mnNam mnBo mnBn (nI (wh_ (fun k => decide (¬ (((L_X12_resultOf_12 mPpl mW wo more into 4).1 >>> ((nI k) &&& 31)) &&& 1) = 0)) 19)) 8 hB0 (by exact vp_in_nI (Nat.lt_of_le_of_lt wh_le (by decide)) (by decide)) (by first | assumption | exact vin_d (by decide) | exact vp_in_nI (by omega) (by decide) | decide | omega)) hK hP hD hE hS (hB0 0 _ rfl) rfl rfl rfl hl.1 (Nat.le_of_ble_eq_true rfl) rfl rfl ⟨(Nat.le_of_ble_eq_true rfl), (Nat.le_of_ble_eq_true rfl)⟩ ⟨(Nat.le_of_ble_eq_true rfl), (Nat.le_of_ble_eq_true rfl)⟩ dX12_resultOf_163) hS rfl (fun locs hS => ?_)
                have hf : (f_X12_resultOf mPpl mW need wo more into) = (f_X12_of mW (nI (wh_ (fun k => decide (¬ (((L_X12_resultOf_12 mPpl mW wo more into 4).1 >>> ((nI k) &&& 31)) &&& 1) = 0)) 19)) 8) := (if_neg c2).trans ((if_neg c3).trans (if_neg c5))
                exact g_iretR S hr hlk hS (by rw [hf] <;> rfl) dX12_resultOf_166
              · refine lv_iload S.1 S.2.1 dX12_resultOf_153 (lv_at hl 8 rfl) ?_
                refine lv_goto (tgt := 166) S.1 S.2.1 dX12_resultOf_155 (by decide) ?_
                have hf : (f_X12_resultOf mPpl mW need wo more into) = into := (if_neg c2).trans ((if_neg c3).trans (if_pos c5))
                exact g_iretR S hr hlk hS (by rw [hf] <;> rfl) dX12_resultOf_166
            | succ j ih =>
              intro n hn locs ls hS hl
              refine lv_iload S.1 S.2.1 dX12_resultOf_127 (lv_at hl 1 rfl) ?_
              refine lv_iload S.1 S.2.1 dX12_resultOf_129 (lv_at hl 0 rfl) ?_
              refine lv_ishr S.1 S.2.1 dX12_resultOf_131 ?_
              refine lv_iconst (v := 1) S.1 S.2.1 dX12_resultOf_132 (by decide) ?_
              refine lv_iand S.1 S.2.1 dX12_resultOf_133 ?_
              refine lv_if_ne (tgt := 143) S.1 S.2.1 dX12_resultOf_134 (by decide) (fun (c6 : ¬ (((L_X12_resultOf_12 mPpl mW wo more into 4).1 >>> ((nI n) &&& 31)) &&& 1) = 0) => absurd c6 (wh_inP hn)) (fun (c6 : (((L_X12_resultOf_12 mPpl mW wo more into 4).1 >>> ((nI n) &&& 31)) &&& 1) = 0) => ?_)
              refine lv_iinc (v := (nI (n + 1))) (lv' := [(8, .int (nI (n + 1))), (7, .int ((L_X12_resultOf_12 mPpl mW wo more into 4).1)), (6, .int ((L_X12_resultOf_12 mPpl mW wo more into 4).2.1)), (5, .int ((L_X12_resultOf_12 mPpl mW wo more into 4).2.2)), (0, .ref (α (k))), (1, .int need), (2, .int wo), (3, .int more), (4, .int into)]) S.1 S.2.1 dX12_resultOf_137 hl (k := 0) rfl ((nI_succ n).symm) (by decide) rfl (fun ls hl => ?_)
              refine lv_goto (tgt := 127) S.1 S.2.1 dX12_resultOf_140 (by decide) ?_
              refine ih (n + 1) (by omega) _ _ hS ?_
              exact lv_sub hl [0, 1, 2, 3, 4, 5, 6, 7, 8] rfl
          exact lp127 (wh_ (fun k => decide (¬ (((L_X12_resultOf_12 mPpl mW wo more into 4).1 >>> ((nI k) &&& 31)) &&& 1) = 0)) 19) 0 (Nat.zero_add _) _ _ hS (lv_sub hl [0, 1, 2, 3, 4, 5, 6, 7, 8] rfl)
        · refine lv_bipush (v := (-2)) S.1 S.2.1 dX12_resultOf_121 (by decide) ?_
          have hf : (f_X12_resultOf mPpl mW need wo more into) = (-2) := (if_neg c2).trans (if_pos c3)
          exact g_iretR S hr hlk hS (by rw [hf] <;> rfl) dX12_resultOf_123
    | succ j ih =>
      intro n hn locs ls hS hl
      refine lv_iload S.1 S.2.1 dX12_resultOf_12 (lv_at hl 0 rfl) ?_
      refine lv_iconst (v := 4) S.1 S.2.1 dX12_resultOf_14 (by decide) ?_
      refine lv_icmp_ge (tgt := 110) S.1 S.2.1 dX12_resultOf_15 (by decide) (fun (c7 : 4 ≤ (nI n)) => absurd c7 (lp_in (s := 0) (by decide) hn)) (fun (c7 : ¬ 4 ≤ (nI n)) => ?_)
      refine lv_aload_n S.1 S.2.1 dX12_resultOf_18 rfl (lv_at hl 4 rfl) ?_
      refine lv_iload S.1 S.2.1 dX12_resultOf_19 (lv_at hl 0 rfl) ?_
      refine g_aftR0 (st1 := [.int (f_X12_setIn mPpl mW (nI n))]) (g_V (As := [.int (nI n)]) (rest := []) S mi_X12_setIn qw1668 (c_X12_setIn l D A w α (k) mTaped mErr mPpl mBts mUs mRa mSt mKi mWd mVal mLet mFin mNp mNb mOuts mWant mFnd mTape mNum mNam mFst mBnm mW mUn mSl mKp mnNum mnNam mnBo mnBn (nI n) hB0 (by first | assumption | exact vin_d (by decide) | exact vp_in_nI (by omega) (by decide) | decide | omega)) hK hP hD hE hS (hB0 0 _ rfl) rfl rfl rfl hl.1 (Nat.le_of_ble_eq_true rfl) rfl rfl ⟨(Nat.le_of_ble_eq_true rfl), (Nat.le_of_ble_eq_true rfl)⟩ ⟨(Nat.le_of_ble_eq_true rfl), (Nat.le_of_ble_eq_true rfl)⟩ dX12_resultOf_21) hS rfl (fun locs hS => ?_)
      refine lv_iload_n S.1 S.2.1 dX12_resultOf_24 rfl (lv_at hl 6 rfl) ?_
      refine lv_iconst (v := (-1)) S.1 S.2.1 dX12_resultOf_25 (by decide) ?_
      refine lv_ixor S.1 S.2.1 dX12_resultOf_26 ?_
      refine lv_iand S.1 S.2.1 dX12_resultOf_27 ?_
      refine lv_iload S.1 S.2.1 dX12_resultOf_28 (lv_at hl 0 rfl) ?_
      refine lv_iload S.1 S.2.1 dX12_resultOf_30 (lv_at hl 8 rfl) ?_
      have jn32 : ∀ (locs : List Loc) (ls : Array Slot), va_S A s.heap s.heap locs → lv_has ls 11 [(8, .int (nI n)), (7, .int ((L_X12_resultOf_12 mPpl mW wo more into n).1)), (6, .int ((L_X12_resultOf_12 mPpl mW wo more into n).2.1)), (5, .int ((L_X12_resultOf_12 mPpl mW wo more into n).2.2)), (0, .ref (α (k))), (1, .int need), (2, .int wo), (3, .int more), (4, .int into)] → W pg l en ({ frames := 2, cells := 0, slots := 0, locals := 45 } : Room) s mi ar below me co s.heap locs 0 0 (MQ below (gR (some (.int (f_X12_resultOf mPpl mW need wo more into)))) ar s 0 0 A) (F0 mi 40 ls [.int (J_X12_resultOf_32 more into n), .int ((f_X12_setIn mPpl mW (nI n)) &&& (wo ^^^ (-1)))]) := by
        intro locs ls hS hl
        refine lv_ior S.1 S.2.1 dX12_resultOf_40 ?_
        refine lv_istore (lv' := [(9, .int (((f_X12_setIn mPpl mW (nI n)) &&& (wo ^^^ (-1))) ||| (J_X12_resultOf_32 more into n))), (8, .int (nI n)), (7, .int ((L_X12_resultOf_12 mPpl mW wo more into n).1)), (6, .int ((L_X12_resultOf_12 mPpl mW wo more into n).2.1)), (5, .int ((L_X12_resultOf_12 mPpl mW wo more into n).2.2)), (0, .ref (α (k))), (1, .int need), (2, .int wo), (3, .int more), (4, .int into)]) S.1 S.2.1 dX12_resultOf_41 hl (by decide) rfl (fun ls hl => ?_)
        refine lv_iload S.1 S.2.1 dX12_resultOf_43 (lv_at hl 0 rfl) ?_
        refine g_aftR0 (st1 := [.int (f_X12_ones (((f_X12_setIn mPpl mW (nI n)) &&& (wo ^^^ (-1))) ||| (J_X12_resultOf_32 more into n)))]) (g_St (As := [.int (((f_X12_setIn mPpl mW (nI n)) &&& (wo ^^^ (-1))) ||| (J_X12_resultOf_32 more into n))]) (rest := []) S ms_X12_ones qw1645 (c_X12_ones l D A w α (((f_X12_setIn mPpl mW (nI n)) &&& (wo ^^^ (-1))) ||| (J_X12_resultOf_32 more into n))) hK hP hD hE hS rfl rfl hl.1 (Nat.le_of_ble_eq_true rfl) rfl rfl ⟨(Nat.le_of_ble_eq_true rfl), (Nat.le_of_ble_eq_true rfl)⟩ ⟨(Nat.le_of_ble_eq_true rfl), (Nat.le_of_ble_eq_true rfl)⟩ dX12_resultOf_45) hS rfl (fun locs hS => ?_)
        refine lv_istore (lv' := [(10, .int (f_X12_ones (((f_X12_setIn mPpl mW (nI n)) &&& (wo ^^^ (-1))) ||| (J_X12_resultOf_32 more into n)))), (9, .int (((f_X12_setIn mPpl mW (nI n)) &&& (wo ^^^ (-1))) ||| (J_X12_resultOf_32 more into n))), (8, .int (nI n)), (7, .int ((L_X12_resultOf_12 mPpl mW wo more into n).1)), (6, .int ((L_X12_resultOf_12 mPpl mW wo more into n).2.1)), (5, .int ((L_X12_resultOf_12 mPpl mW wo more into n).2.2)), (0, .ref (α (k))), (1, .int need), (2, .int wo), (3, .int more), (4, .int into)]) S.1 S.2.1 dX12_resultOf_48 hl (by decide) rfl (fun ls hl => ?_)
        refine lv_iload S.1 S.2.1 dX12_resultOf_50 (lv_at hl 5 rfl) ?_
        refine lv_iload S.1 S.2.1 dX12_resultOf_52 (lv_at hl 0 rfl) ?_
        refine lv_iadd S.1 S.2.1 dX12_resultOf_54 ?_
        refine lv_istore (lv' := [(5, .int ((L_X12_resultOf_12 mPpl mW wo more into n).2.2 + (f_X12_ones (((f_X12_setIn mPpl mW (nI n)) &&& (wo ^^^ (-1))) ||| (J_X12_resultOf_32 more into n))))), (10, .int (f_X12_ones (((f_X12_setIn mPpl mW (nI n)) &&& (wo ^^^ (-1))) ||| (J_X12_resultOf_32 more into n)))), (9, .int (((f_X12_setIn mPpl mW (nI n)) &&& (wo ^^^ (-1))) ||| (J_X12_resultOf_32 more into n))), (8, .int (nI n)), (7, .int ((L_X12_resultOf_12 mPpl mW wo more into n).1)), (6, .int ((L_X12_resultOf_12 mPpl mW wo more into n).2.1)), (0, .ref (α (k))), (1, .int need), (2, .int wo), (3, .int more), (4, .int into)]) S.1 S.2.1 dX12_resultOf_55 hl (by decide) rfl (fun ls hl => ?_)
        refine lv_iload S.1 S.2.1 dX12_resultOf_57 (lv_at hl 1 rfl) ?_
        refine lv_iload S.1 S.2.1 dX12_resultOf_59 (lv_at hl 5 rfl) ?_
        have jn61 : ∀ (locs : List Loc) (ls : Array Slot), va_S A s.heap s.heap locs → lv_has ls 11 [(5, .int ((L_X12_resultOf_12 mPpl mW wo more into n).2.2 + (f_X12_ones (((f_X12_setIn mPpl mW (nI n)) &&& (wo ^^^ (-1))) ||| (J_X12_resultOf_32 more into n))))), (10, .int (f_X12_ones (((f_X12_setIn mPpl mW (nI n)) &&& (wo ^^^ (-1))) ||| (J_X12_resultOf_32 more into n)))), (9, .int (((f_X12_setIn mPpl mW (nI n)) &&& (wo ^^^ (-1))) ||| (J_X12_resultOf_32 more into n))), (8, .int (nI n)), (7, .int ((L_X12_resultOf_12 mPpl mW wo more into n).1)), (6, .int ((L_X12_resultOf_12 mPpl mW wo more into n).2.1)), (0, .ref (α (k))), (1, .int need), (2, .int wo), (3, .int more), (4, .int into)] → W pg l en ({ frames := 2, cells := 0, slots := 0, locals := 45 } : Room) s mi ar below me co s.heap locs 0 0 (MQ below (gR (some (.int (f_X12_resultOf mPpl mW need wo more into)))) ar s 0 0 A) (F0 mi 86 ls [.int (J_X12_resultOf_61 mPpl mW wo more into n (L_X12_resultOf_12 mPpl mW wo more into n))]) := by
          intro locs ls hS hl
          refine lv_istore (lv' := [(7, .int (J_X12_resultOf_61 mPpl mW wo more into n (L_X12_resultOf_12 mPpl mW wo more into n))), (5, .int ((L_X12_resultOf_12 mPpl mW wo more into n).2.2 + (f_X12_ones (((f_X12_setIn mPpl mW (nI n)) &&& (wo ^^^ (-1))) ||| (J_X12_resultOf_32 more into n))))), (10, .int (f_X12_ones (((f_X12_setIn mPpl mW (nI n)) &&& (wo ^^^ (-1))) ||| (J_X12_resultOf_32 more into n)))), (9, .int (((f_X12_setIn mPpl mW (nI n)) &&& (wo ^^^ (-1))) ||| (J_X12_resultOf_32 more into n))), (8, .int (nI n)), (6, .int ((L_X12_resultOf_12 mPpl mW wo more into n).2.1)), (0, .ref (α (k))), (1, .int need), (2, .int wo), (3, .int more), (4, .int into)]) S.1 S.2.1 dX12_resultOf_86 hl (by decide) rfl (fun ls hl => ?_)
          refine lv_iload S.1 S.2.1 dX12_resultOf_88 (lv_at hl 2 rfl) ?_
          refine lv_iload S.1 S.2.1 dX12_resultOf_90 (lv_at hl 5 rfl) ?_
          have jn92 : ∀ (locs : List Loc) (ls : Array Slot), va_S A s.heap s.heap locs → lv_has ls 11 [(7, .int (J_X12_resultOf_61 mPpl mW wo more into n (L_X12_resultOf_12 mPpl mW wo more into n))), (5, .int ((L_X12_resultOf_12 mPpl mW wo more into n).2.2 + (f_X12_ones (((f_X12_setIn mPpl mW (nI n)) &&& (wo ^^^ (-1))) ||| (J_X12_resultOf_32 more into n))))), (10, .int (f_X12_ones (((f_X12_setIn mPpl mW (nI n)) &&& (wo ^^^ (-1))) ||| (J_X12_resultOf_32 more into n)))), (9, .int (((f_X12_setIn mPpl mW (nI n)) &&& (wo ^^^ (-1))) ||| (J_X12_resultOf_32 more into n))), (8, .int (nI n)), (6, .int ((L_X12_resultOf_12 mPpl mW wo more into n).2.1)), (0, .ref (α (k))), (1, .int need), (2, .int wo), (3, .int more), (4, .int into)] → W pg l en ({ frames := 2, cells := 0, slots := 0, locals := 45 } : Room) s mi ar below me co s.heap locs 0 0 (MQ below (gR (some (.int (f_X12_resultOf mPpl mW need wo more into)))) ar s 0 0 A) (F0 mi 102 ls [.int (J_X12_resultOf_92 mPpl mW wo more into n (L_X12_resultOf_12 mPpl mW wo more into n))]) := by
            intro locs ls hS hl
            refine lv_istore (lv' := [(6, .int (J_X12_resultOf_92 mPpl mW wo more into n (L_X12_resultOf_12 mPpl mW wo more into n))), (7, .int (J_X12_resultOf_61 mPpl mW wo more into n (L_X12_resultOf_12 mPpl mW wo more into n))), (5, .int ((L_X12_resultOf_12 mPpl mW wo more into n).2.2 + (f_X12_ones (((f_X12_setIn mPpl mW (nI n)) &&& (wo ^^^ (-1))) ||| (J_X12_resultOf_32 more into n))))), (10, .int (f_X12_ones (((f_X12_setIn mPpl mW (nI n)) &&& (wo ^^^ (-1))) ||| (J_X12_resultOf_32 more into n)))), (9, .int (((f_X12_setIn mPpl mW (nI n)) &&& (wo ^^^ (-1))) ||| (J_X12_resultOf_32 more into n))), (8, .int (nI n)), (0, .ref (α (k))), (1, .int need), (2, .int wo), (3, .int more), (4, .int into)]) S.1 S.2.1 dX12_resultOf_102 hl (by decide) rfl (fun ls hl => ?_)
            refine lv_iinc (v := (nI (n + 1))) (lv' := [(8, .int (nI (n + 1))), (6, .int (J_X12_resultOf_92 mPpl mW wo more into n (L_X12_resultOf_12 mPpl mW wo more into n))), (7, .int (J_X12_resultOf_61 mPpl mW wo more into n (L_X12_resultOf_12 mPpl mW wo more into n))), (5, .int ((L_X12_resultOf_12 mPpl mW wo more into n).2.2 + (f_X12_ones (((f_X12_setIn mPpl mW (nI n)) &&& (wo ^^^ (-1))) ||| (J_X12_resultOf_32 more into n))))), (10, .int (f_X12_ones (((f_X12_setIn mPpl mW (nI n)) &&& (wo ^^^ (-1))) ||| (J_X12_resultOf_32 more into n)))), (9, .int (((f_X12_setIn mPpl mW (nI n)) &&& (wo ^^^ (-1))) ||| (J_X12_resultOf_32 more into n))), (0, .ref (α (k))), (1, .int need), (2, .int wo), (3, .int more), (4, .int into)]) S.1 S.2.1 dX12_resultOf_104 hl (k := 5) rfl ((nI_succ n).symm) (by decide) rfl (fun ls hl => ?_)
            refine lv_goto (tgt := 12) S.1 S.2.1 dX12_resultOf_107 (by decide) ?_
            have hL : (L_X12_resultOf_12 mPpl mW wo more into (n + 1)) = ((J_X12_resultOf_61 mPpl mW wo more into n (L_X12_resultOf_12 mPpl mW wo more into n)), (J_X12_resultOf_92 mPpl mW wo more into n (L_X12_resultOf_12 mPpl mW wo more into n)), ((L_X12_resultOf_12 mPpl mW wo more into n).2.2 + (f_X12_ones (((f_X12_setIn mPpl mW (nI n)) &&& (wo ^^^ (-1))) ||| (J_X12_resultOf_32 more into n))))) := (iter_s _ _ _).trans (rfl)
            refine ih (n + 1) (by omega) _ _ hS ?_
            rw [hL]; exact lv_sub hl [0, 2, 1, 3, 6, 7, 8, 9, 10] rfl
          refine lv_icmp_le (tgt := 100) S.1 S.2.1 dX12_resultOf_92 (by decide) (fun (c11 : (f_X12_ones (((f_X12_setIn mPpl mW (nI n)) &&& (wo ^^^ (-1))) ||| (J_X12_resultOf_32 more into n))) ≤ (L_X12_resultOf_12 mPpl mW wo more into n).2.1) => ?_) (fun (c11 : ¬ (f_X12_ones (((f_X12_setIn mPpl mW (nI n)) &&& (wo ^^^ (-1))) ||| (J_X12_resultOf_32 more into n))) ≤ (L_X12_resultOf_12 mPpl mW wo more into n).2.1) => ?_)
          · refine lv_iload S.1 S.2.1 dX12_resultOf_100 (lv_at hl 5 rfl) ?_
            have hJ : (J_X12_resultOf_92 mPpl mW wo more into n (L_X12_resultOf_12 mPpl mW wo more into n)) = (L_X12_resultOf_12 mPpl mW wo more into n).2.1 := if_pos c11
            have qj := jn92
            rw [hJ] at qj
            exact qj _ _ hS (lv_sub hl [0, 1, 2, 3, 4, 5, 6, 7, 8, 9, 10] rfl)
          · refine lv_iload S.1 S.2.1 dX12_resultOf_95 (lv_at hl 2 rfl) ?_
            refine lv_goto (tgt := 102) S.1 S.2.1 dX12_resultOf_97 (by decide) ?_
            have hJ : (J_X12_resultOf_92 mPpl mW wo more into n (L_X12_resultOf_12 mPpl mW wo more into n)) = (f_X12_ones (((f_X12_setIn mPpl mW (nI n)) &&& (wo ^^^ (-1))) ||| (J_X12_resultOf_32 more into n))) := if_neg c11
            have qj := jn92
            rw [hJ] at qj
            exact qj _ _ hS (lv_sub hl [0, 1, 2, 3, 4, 5, 6, 7, 8, 9, 10] rfl)
        refine lv_icmp_le (tgt := 69) S.1 S.2.1 dX12_resultOf_61 (by decide) (fun (c9 : (f_X12_ones (((f_X12_setIn mPpl mW (nI n)) &&& (wo ^^^ (-1))) ||| (J_X12_resultOf_32 more into n))) ≤ (L_X12_resultOf_12 mPpl mW wo more into n).2.1) => ?_) (fun (c9 : ¬ (f_X12_ones (((f_X12_setIn mPpl mW (nI n)) &&& (wo ^^^ (-1))) ||| (J_X12_resultOf_32 more into n))) ≤ (L_X12_resultOf_12 mPpl mW wo more into n).2.1) => ?_)
        · refine lv_iload S.1 S.2.1 dX12_resultOf_69 (lv_at hl 1 rfl) ?_
          refine lv_iload S.1 S.2.1 dX12_resultOf_71 (lv_at hl 5 rfl) ?_
          refine lv_icmp_ne (tgt := 84) S.1 S.2.1 dX12_resultOf_73 (by decide) (fun (c10 : ¬ (f_X12_ones (((f_X12_setIn mPpl mW (nI n)) &&& (wo ^^^ (-1))) ||| (J_X12_resultOf_32 more into n))) = (L_X12_resultOf_12 mPpl mW wo more into n).2.1) => ?_) (fun (c10 : (f_X12_ones (((f_X12_setIn mPpl mW (nI n)) &&& (wo ^^^ (-1))) ||| (J_X12_resultOf_32 more into n))) = (L_X12_resultOf_12 mPpl mW wo more into n).2.1) => ?_)
          · refine lv_iload S.1 S.2.1 dX12_resultOf_84 (lv_at hl 4 rfl) ?_
            have hJ : (J_X12_resultOf_61 mPpl mW wo more into n (L_X12_resultOf_12 mPpl mW wo more into n)) = (L_X12_resultOf_12 mPpl mW wo more into n).1 := (if_pos c9).trans (if_neg c10)
            have qj := jn61
            rw [hJ] at qj
            exact qj _ _ hS (lv_sub hl [0, 1, 2, 3, 4, 5, 6, 7, 8, 9, 10] rfl)
          · refine lv_iload S.1 S.2.1 dX12_resultOf_76 (lv_at hl 4 rfl) ?_
            refine lv_iload S.1 S.2.1 dX12_resultOf_78 (lv_at hl 2 rfl) ?_
            refine lv_ior S.1 S.2.1 dX12_resultOf_80 ?_
            refine lv_goto (tgt := 86) S.1 S.2.1 dX12_resultOf_81 (by decide) ?_
            have hJ : (J_X12_resultOf_61 mPpl mW wo more into n (L_X12_resultOf_12 mPpl mW wo more into n)) = ((L_X12_resultOf_12 mPpl mW wo more into n).1 ||| (((f_X12_setIn mPpl mW (nI n)) &&& (wo ^^^ (-1))) ||| (J_X12_resultOf_32 more into n))) := (if_pos c9).trans (if_pos c10)
            have qj := jn61
            rw [hJ] at qj
            exact qj _ _ hS (lv_sub hl [0, 1, 2, 3, 4, 5, 6, 7, 8, 9, 10] rfl)
        · refine lv_iload S.1 S.2.1 dX12_resultOf_64 (lv_at hl 2 rfl) ?_
          refine lv_goto (tgt := 86) S.1 S.2.1 dX12_resultOf_66 (by decide) ?_
          have hJ : (J_X12_resultOf_61 mPpl mW wo more into n (L_X12_resultOf_12 mPpl mW wo more into n)) = (((f_X12_setIn mPpl mW (nI n)) &&& (wo ^^^ (-1))) ||| (J_X12_resultOf_32 more into n)) := if_neg c9
          have qj := jn61
          rw [hJ] at qj
          exact qj _ _ hS (lv_sub hl [0, 1, 2, 3, 4, 5, 6, 7, 8, 9, 10] rfl)
      refine lv_icmp_ne (tgt := 39) S.1 S.2.1 dX12_resultOf_32 (by decide) (fun (c8 : ¬ (nI n) = into) => ?_) (fun (c8 : (nI n) = into) => ?_)
      · refine lv_iconst (v := 0) S.1 S.2.1 dX12_resultOf_39 (by decide) ?_
        have hJ : (J_X12_resultOf_32 more into n) = 0 := if_neg c8
        have qj := jn32
        rw [hJ] at qj
        exact qj _ _ hS (lv_sub hl [0, 1, 2, 3, 4, 5, 6, 7, 8] rfl)
      · refine lv_iload_n S.1 S.2.1 dX12_resultOf_35 rfl (lv_at hl 7 rfl) ?_
        refine lv_goto (tgt := 40) S.1 S.2.1 dX12_resultOf_36 (by decide) ?_
        have hJ : (J_X12_resultOf_32 more into n) = more := if_pos c8
        have qj := jn32
        rw [hJ] at qj
        exact qj _ _ hS (lv_sub hl [0, 1, 2, 3, 4, 5, 6, 7, 8] rfl)
  have hL0 : (L_X12_resultOf_12 mPpl mW wo more into 0) = (0, 0, 0) := iter_z _ _
  exact lp12 4 0 (Nat.zero_add _) _ _ hS (by rw [hL0]; exact lv_sub hl [0, 1, 2, 3, 4, 5, 6, 7, 8] rfl)
def f_X12_resultNow (mPpl : Int32) (mBts : Int32) (mNum : Nat → Int32) (mW : Nat → Int32) : Int32 := (f_X12_resultOf mPpl mW (f_X12_needNow mPpl mBts mNum mW) 0 0 (-2))
set_option maxHeartbeats 4000000 in
set_option maxRecDepth 100000 in
theorem c_X12_resultNow (l : Launch) (D : va_G) (A : Nat → Prop) (w : va_W) (α : Nat → Nat) (k : Nat) (mTaped : Int32) (mErr : Int32) (mPpl : Int32) (mBts : Int32) (mUs : Int32) (mRa : Int32) (mSt : Int32) (mKi : Int32) (mWd : Int64) (mVal : Int32) (mLet : Int32) (mFin : Int32) (mNp : Int32) (mNb : Int32) (mOuts : Int32) (mWant : Int32) (mFnd : Int32) (mTape : Nat → Int32) (mNum : Nat → Int32) (mNam : Nat → Int32) (mFst : Nat → Int32) (mBnm : Nat → Int32) (mW : Nat → Int32) (mUn : Nat → Int32) (mSl : Nat → Int32) (mKp : Nat → Int32) (mnNum : Nat → Int32) (mnNam : Nat → Int32) (mnBo : Nat → Int32) (mnBn : Nat → Int32) (hB0 : Blk w k (cM D α k mTaped mErr mPpl mBts mUs mRa mSt mKi mWd mVal mLet mFin mNp mNb mOuts mWant mFnd mTape mNum mNam mFst mBnm mW mUn mSl mKp mnNum mnNam mnBo mnBn)) (hy0 : vp_in mPpl 21) (hy1 : 0 ≤ mW 0) (hy2 : 0 < mNum 0) (hy3 : vp_in mBts 7) : Met l yX12_resultNow (ws_ yX12_resultNow cX12_resultNow 1 (some .int)) ({ frames := 5, cells := 0, slots := 0, locals := 108 }) (gPre D A [.ref (α (k))] w) (gR (some (.int (f_X12_resultNow mPpl mBts mNum mW)))) 0 0 A := by
  refine g_met [(0, .ref (α (k)))] (plainFor_of_name (by decide)) (Nat.le_of_ble_eq_true rfl) rfl (fun pg en s mi ar below me co ls S hK hP hD hE hS hr hlk hnm hl => ?_)
  have hpn := vin_lt (show vp_in mPpl 21 by assumption)
  refine lv_aload_n S.1 S.2.1 dX12_resultNow_0 rfl (lv_at hl 0 rfl) ?_
  refine lv_aload_n S.1 S.2.1 dX12_resultNow_1 rfl (lv_at hl 0 rfl) ?_
  refine g_aftR0 (st1 := [.int (f_X12_needNow mPpl mBts mNum mW), .ref (α (k))]) (g_V (As := []) (rest := [.ref (α (k))]) S mi_X12_needNow qw1692 (c_X12_needNow l D A w α (k) mTaped mErr mPpl mBts mUs mRa mSt mKi mWd mVal mLet mFin mNp mNb mOuts mWant mFnd mTape mNum mNam mFst mBnm mW mUn mSl mKp mnNum mnNam mnBo mnBn hB0 (by first | assumption | exact vin_d (by decide) | exact vp_in_nI (by omega) (by decide) | decide | omega) (by first | assumption | exact vin_d (by decide) | exact vp_in_nI (by omega) (by decide) | decide | omega) (by first | assumption | exact vin_d (by decide) | exact vp_in_nI (by omega) (by decide) | decide | omega)) hK hP hD hE hS (hB0 0 _ rfl) rfl rfl rfl hl.1 (Nat.le_of_ble_eq_true rfl) rfl rfl ⟨(Nat.le_of_ble_eq_true rfl), (Nat.le_of_ble_eq_true rfl)⟩ ⟨(Nat.le_of_ble_eq_true rfl), (Nat.le_of_ble_eq_true rfl)⟩ dX12_resultNow_2) hS rfl (fun locs hS => ?_)
  refine lv_iconst (v := 0) S.1 S.2.1 dX12_resultNow_5 (by decide) ?_
  refine lv_iconst (v := 0) S.1 S.2.1 dX12_resultNow_6 (by decide) ?_
  refine lv_bipush (v := (-2)) S.1 S.2.1 dX12_resultNow_7 (by decide) ?_
  refine g_aftR0 (st1 := [.int (f_X12_resultOf mPpl mW (f_X12_needNow mPpl mBts mNum mW) 0 0 (-2))]) (g_V (As := [.int (f_X12_needNow mPpl mBts mNum mW), .int 0, .int 0, .int (-2)]) (rest := []) S mi_X12_resultOf qw1708 (c_X12_resultOf l D A w α (k) mTaped mErr mPpl mBts mUs mRa mSt mKi mWd mVal mLet mFin mNp mNb mOuts mWant mFnd mTape mNum mNam mFst mBnm mW mUn mSl mKp mnNum mnNam mnBo mnBn (f_X12_needNow mPpl mBts mNum mW) 0 0 (-2) hB0 (by first | assumption | exact vin_d (by decide) | exact vp_in_nI (by omega) (by decide) | decide | omega) (by exact low20_0)) hK hP hD hE hS (hB0 0 _ rfl) rfl rfl rfl hl.1 (Nat.le_of_ble_eq_true rfl) rfl rfl ⟨(Nat.le_of_ble_eq_true rfl), (Nat.le_of_ble_eq_true rfl)⟩ ⟨(Nat.le_of_ble_eq_true rfl), (Nat.le_of_ble_eq_true rfl)⟩ dX12_resultNow_9) hS rfl (fun locs hS => ?_)
  have hf : (f_X12_resultNow mPpl mBts mNum mW) = (f_X12_resultOf mPpl mW (f_X12_needNow mPpl mBts mNum mW) 0 0 (-2)) := rfl
  exact g_iretR S hr hlk hS (by rw [hf] <;> rfl) dX12_resultNow_12
def f_X12_keepsPast (mPpl : Int32) (mBts : Int32) (mNum : Nat → Int32) (mW : Nat → Int32) : (Nat → Int32) := (upd (upd (upd (upd mW (247 + (4 * (((mW 1) - 1) - ((mW 1) - 1) / 8 * 8))).toNatClampNeg (mW 5)) ((247 + (4 * (((mW 1) - 1) - ((mW 1) - 1) / 8 * 8))) + 1).toNatClampNeg (f_X12_turnout mPpl (upd mW (247 + (4 * (((mW 1) - 1) - ((mW 1) - 1) / 8 * 8))).toNatClampNeg (mW 5)))) ((247 + (4 * (((mW 1) - 1) - ((mW 1) - 1) / 8 * 8))) + 2).toNatClampNeg ((upd (upd mW (247 + (4 * (((mW 1) - 1) - ((mW 1) - 1) / 8 * 8))).toNatClampNeg (mW 5)) ((247 + (4 * (((mW 1) - 1) - ((mW 1) - 1) / 8 * 8))) + 1).toNatClampNeg (f_X12_turnout mPpl (upd mW (247 + (4 * (((mW 1) - 1) - ((mW 1) - 1) / 8 * 8))).toNatClampNeg (mW 5)))) 4)) ((247 + (4 * (((mW 1) - 1) - ((mW 1) - 1) / 8 * 8))) + 3).toNatClampNeg (f_X12_resultNow mPpl mBts mNum (upd (upd (upd mW (247 + (4 * (((mW 1) - 1) - ((mW 1) - 1) / 8 * 8))).toNatClampNeg (mW 5)) ((247 + (4 * (((mW 1) - 1) - ((mW 1) - 1) / 8 * 8))) + 1).toNatClampNeg (f_X12_turnout mPpl (upd mW (247 + (4 * (((mW 1) - 1) - ((mW 1) - 1) / 8 * 8))).toNatClampNeg (mW 5)))) ((247 + (4 * (((mW 1) - 1) - ((mW 1) - 1) / 8 * 8))) + 2).toNatClampNeg ((upd (upd mW (247 + (4 * (((mW 1) - 1) - ((mW 1) - 1) / 8 * 8))).toNatClampNeg (mW 5)) ((247 + (4 * (((mW 1) - 1) - ((mW 1) - 1) / 8 * 8))) + 1).toNatClampNeg (f_X12_turnout mPpl (upd mW (247 + (4 * (((mW 1) - 1) - ((mW 1) - 1) / 8 * 8))).toNatClampNeg (mW 5)))) 4))))
set_option maxHeartbeats 4000000 in
set_option maxRecDepth 100000 in
theorem c_X12_keepsPast (l : Launch) (D : va_G) (A : Nat → Prop) (w : va_W) (α : Nat → Nat) (k : Nat) (mTaped : Int32) (mErr : Int32) (mPpl : Int32) (mBts : Int32) (mUs : Int32) (mRa : Int32) (mSt : Int32) (mKi : Int32) (mWd : Int64) (mVal : Int32) (mLet : Int32) (mFin : Int32) (mNp : Int32) (mNb : Int32) (mOuts : Int32) (mWant : Int32) (mFnd : Int32) (mTape : Nat → Int32) (mNum : Nat → Int32) (mNam : Nat → Int32) (mFst : Nat → Int32) (mBnm : Nat → Int32) (mW : Nat → Int32) (mUn : Nat → Int32) (mSl : Nat → Int32) (mKp : Nat → Int32) (mnNum : Nat → Int32) (mnNam : Nat → Int32) (mnBo : Nat → Int32) (mnBn : Nat → Int32) (hB0 : Blk w k (cM D α k mTaped mErr mPpl mBts mUs mRa mSt mKi mWd mVal mLet mFin mNp mNb mOuts mWant mFnd mTape mNum mNam mFst mBnm mW mUn mSl mKp mnNum mnNam mnBo mnBn)) (hy0 : ¬ mW 1 - 1 < 0) (hy1 : vp_in mPpl 21) (hy2 : 0 ≤ mW 0) (hy3 : 0 < mNum 0) (hy4 : vp_in mBts 7) : Met l yX12_keepsPast (ws_ yX12_keepsPast cX12_keepsPast 2 none) ({ frames := 6, cells := 0, slots := 0, locals := 128 }) (gPre D A [.ref (α (k))] w) (gQ D A none (fun w1 => Blk w1 k (cM D α k mTaped mErr mPpl mBts mUs mRa mSt mKi mWd mVal mLet mFin mNp mNb mOuts mWant mFnd mTape mNum mNam mFst mBnm (f_X12_keepsPast mPpl mBts mNum mW) mUn mSl mKp mnNum mnNam mnBo mnBn) ∧ Same w w1 k 14)) 0 0 A := by
  refine g_met [(0, .ref (α (k)))] (plainFor_of_name (by decide)) (Nat.le_of_ble_eq_true rfl) rfl (fun pg en s mi ar below me co ls S hK hP hD hE hS hr hlk hnm hl => ?_)
  have hF : Same w w k 14 := Same.rf
  have hpn := vin_lt (show vp_in mPpl 21 by assumption)
  refine lv_sipush (v := 247) S.1 S.2.1 dX12_keepsPast_0 (by decide) ?_
  refine lv_iconst (v := 4) S.1 S.2.1 dX12_keepsPast_3 (by decide) ?_
  refine lv_aload_n S.1 S.2.1 dX12_keepsPast_4 rfl (lv_at hl 0 rfl) ?_
  refine g_get (v := .ref (α (k + 6))) S hK hP (hB0 0 _ rfl) rfl inX12 9 (by decide) qw1383 rfl dX12_keepsPast_5 ?_
  refine lv_iconst (v := 1) S.1 S.2.1 dX12_keepsPast_8 (by decide) ?_
  refine g_iald S hK hP (hB0 6 _ rfl) (by first | assumption | exact vin_d (by decide) | exact vp_in_nI (by omega) (by decide) | decide) dX12_keepsPast_9 ?_
  refine lv_iconst (v := 1) S.1 S.2.1 dX12_keepsPast_10 (by decide) ?_
  refine lv_isub S.1 S.2.1 dX12_keepsPast_11 ?_
  refine lv_bipush (v := 8) S.1 S.2.1 dX12_keepsPast_12 (by decide) ?_
  refine lv_irem S.1 S.2.1 dX12_keepsPast_14 (by first | assumption | exact vin_d (by decide) | exact vp_in_nI (by omega) (by decide) | decide) ?_
  refine lv_imul S.1 S.2.1 dX12_keepsPast_15 ?_
  refine lv_iadd S.1 S.2.1 dX12_keepsPast_16 ?_
  refine lv_istore_n (lv' := [(1, .int (247 + (4 * (((mW 1) - 1) - ((mW 1) - 1) / 8 * 8)))), (0, .ref (α (k)))]) S.1 S.2.1 dX12_keepsPast_17 rfl hl (by decide) rfl (fun ls hl => ?_)
  refine lv_aload_n S.1 S.2.1 dX12_keepsPast_18 rfl (lv_at hl 1 rfl) ?_
  refine g_get (v := .ref (α (k + 6))) S hK hP (hB0 0 _ rfl) rfl inX12 9 (by decide) qw1383 rfl dX12_keepsPast_19 ?_
  refine lv_iload_n S.1 S.2.1 dX12_keepsPast_22 rfl (lv_at hl 0 rfl) ?_
  refine lv_aload_n S.1 S.2.1 dX12_keepsPast_23 rfl (lv_at hl 1 rfl) ?_
  refine g_get (v := .ref (α (k + 6))) S hK hP (hB0 0 _ rfl) rfl inX12 9 (by decide) qw1383 rfl dX12_keepsPast_24 ?_
  refine lv_iconst (v := 5) S.1 S.2.1 dX12_keepsPast_27 (by decide) ?_
  refine g_iald S hK hP (hB0 6 _ rfl) (by first | assumption | exact vin_d (by decide) | exact vp_in_nI (by omega) (by decide) | decide) dX12_keepsPast_28 ?_
  refine g_iast S hK hP hD hS (hB0 6 _ rfl) (past_in0 hy0) dX12_keepsPast_29 (fun w1 H locs hw hP hD hS => ?_)
  have hF := Same.set hF 6 hw (by decide)
  have hB0 : Blk w1 k (cM D α k mTaped mErr mPpl mBts mUs mRa mSt mKi mWd mVal mLet mFin mNp mNb mOuts mWant mFnd mTape mNum mNam mFst mBnm (upd mW (247 + (4 * (((mW 1) - 1) - ((mW 1) - 1) / 8 * 8))).toNatClampNeg (mW 5)) mUn mSl mKp mnNum mnNam mnBo mnBn) := hB0.set 6 hw (Nat.le_of_ble_eq_true rfl) rfl
  refine lv_aload_n S.1 S.2.1 dX12_keepsPast_30 rfl (lv_at hl 1 rfl) ?_
  refine g_get (v := .ref (α (k + 6))) S hK hP (hB0 0 _ rfl) rfl inX12 9 (by decide) qw1383 rfl dX12_keepsPast_31 ?_
  refine lv_iload_n S.1 S.2.1 dX12_keepsPast_34 rfl (lv_at hl 0 rfl) ?_
  refine lv_iconst (v := 1) S.1 S.2.1 dX12_keepsPast_35 (by decide) ?_
  refine lv_iadd S.1 S.2.1 dX12_keepsPast_36 ?_
  refine lv_aload_n S.1 S.2.1 dX12_keepsPast_37 rfl (lv_at hl 1 rfl) ?_
  refine g_aftR0 (st1 := [.int (f_X12_turnout mPpl (upd mW (247 + (4 * (((mW 1) - 1) - ((mW 1) - 1) / 8 * 8))).toNatClampNeg (mW 5))), .int ((247 + (4 * (((mW 1) - 1) - ((mW 1) - 1) / 8 * 8))) + 1), .ref (α (k + 6))]) (g_V (As := []) (rest := [.int ((247 + (4 * (((mW 1) - 1) - ((mW 1) - 1) / 8 * 8))) + 1), .ref (α (k + 6))]) S mi_X12_turnout qw1716 (c_X12_turnout l D A w1 α (k) mTaped mErr mPpl mBts mUs mRa mSt mKi mWd mVal mLet mFin mNp mNb mOuts mWant mFnd mTape mNum mNam mFst mBnm (upd mW (247 + (4 * (((mW 1) - 1) - ((mW 1) - 1) / 8 * 8))).toNatClampNeg (mW 5)) mUn mSl mKp mnNum mnNam mnBo mnBn hB0 (by first | assumption | exact vin_d (by decide) | exact vp_in_nI (by omega) (by decide) | decide | omega)) hK hP hD hE hS (hB0 0 _ rfl) rfl rfl rfl hl.1 (Nat.le_of_ble_eq_true rfl) rfl rfl ⟨(Nat.le_of_ble_eq_true rfl), (Nat.le_of_ble_eq_true rfl)⟩ ⟨(Nat.le_of_ble_eq_true rfl), (Nat.le_of_ble_eq_true rfl)⟩ dX12_keepsPast_38) hS rfl (fun locs hS => ?_)
  refine g_iast S hK hP hD hS (hB0 6 _ rfl) (past_in hy0 (vin_d (by decide))) dX12_keepsPast_41 (fun w2 H locs hw hP hD hS => ?_)
  have hF := Same.set hF 6 hw (by decide)
  have hB0 : Blk w2 k (cM D α k mTaped mErr mPpl mBts mUs mRa mSt mKi mWd mVal mLet mFin mNp mNb mOuts mWant mFnd mTape mNum mNam mFst mBnm (upd (upd mW (247 + (4 * (((mW 1) - 1) - ((mW 1) - 1) / 8 * 8))).toNatClampNeg (mW 5)) ((247 + (4 * (((mW 1) - 1) - ((mW 1) - 1) / 8 * 8))) + 1).toNatClampNeg (f_X12_turnout mPpl (upd mW (247 + (4 * (((mW 1) - 1) - ((mW 1) - 1) / 8 * 8))).toNatClampNeg (mW 5)))) mUn mSl mKp mnNum mnNam mnBo mnBn) := hB0.set 6 hw (Nat.le_of_ble_eq_true rfl) rfl
  refine lv_aload_n S.1 S.2.1 dX12_keepsPast_42 rfl (lv_at hl 1 rfl) ?_
  refine g_get (v := .ref (α (k + 6))) S hK hP (hB0 0 _ rfl) rfl inX12 9 (by decide) qw1383 rfl dX12_keepsPast_43 ?_
  refine lv_iload_n S.1 S.2.1 dX12_keepsPast_46 rfl (lv_at hl 0 rfl) ?_
  refine lv_iconst (v := 2) S.1 S.2.1 dX12_keepsPast_47 (by decide) ?_
  refine lv_iadd S.1 S.2.1 dX12_keepsPast_48 ?_
  refine lv_aload_n S.1 S.2.1 dX12_keepsPast_49 rfl (lv_at hl 1 rfl) ?_
  refine g_get (v := .ref (α (k + 6))) S hK hP (hB0 0 _ rfl) rfl inX12 9 (by decide) qw1383 rfl dX12_keepsPast_50 ?_
  refine lv_iconst (v := 4) S.1 S.2.1 dX12_keepsPast_53 (by decide) ?_
  refine g_iald S hK hP (hB0 6 _ rfl) (by first | assumption | exact vin_d (by decide) | exact vp_in_nI (by omega) (by decide) | decide) dX12_keepsPast_54 ?_
  refine g_iast S hK hP hD hS (hB0 6 _ rfl) (past_in hy0 (vin_d (by decide))) dX12_keepsPast_55 (fun w3 H locs hw hP hD hS => ?_)
  have hF := Same.set hF 6 hw (by decide)
  have hB0 : Blk w3 k (cM D α k mTaped mErr mPpl mBts mUs mRa mSt mKi mWd mVal mLet mFin mNp mNb mOuts mWant mFnd mTape mNum mNam mFst mBnm (upd (upd (upd mW (247 + (4 * (((mW 1) - 1) - ((mW 1) - 1) / 8 * 8))).toNatClampNeg (mW 5)) ((247 + (4 * (((mW 1) - 1) - ((mW 1) - 1) / 8 * 8))) + 1).toNatClampNeg (f_X12_turnout mPpl (upd mW (247 + (4 * (((mW 1) - 1) - ((mW 1) - 1) / 8 * 8))).toNatClampNeg (mW 5)))) ((247 + (4 * (((mW 1) - 1) - ((mW 1) - 1) / 8 * 8))) + 2).toNatClampNeg ((upd (upd mW (247 + (4 * (((mW 1) - 1) - ((mW 1) - 1) / 8 * 8))).toNatClampNeg (mW 5)) ((247 + (4 * (((mW 1) - 1) - ((mW 1) - 1) / 8 * 8))) + 1).toNatClampNeg (f_X12_turnout mPpl (upd mW (247 + (4 * (((mW 1) - 1) - ((mW 1) - 1) / 8 * 8))).toNatClampNeg (mW 5)))) 4)) mUn mSl mKp mnNum mnNam mnBo mnBn) := hB0.set 6 hw (Nat.le_of_ble_eq_true rfl) rfl
  refine lv_aload_n S.1 S.2.1 dX12_keepsPast_56 rfl (lv_at hl 1 rfl) ?_
  refine g_get (v := .ref (α (k + 6))) S hK hP (hB0 0 _ rfl) rfl inX12 9 (by decide) qw1383 rfl dX12_keepsPast_57 ?_
  refine lv_iload_n S.1 S.2.1 dX12_keepsPast_60 rfl (lv_at hl 0 rfl) ?_
  refine lv_iconst (v := 3) S.1 S.2.1 dX12_keepsPast_61 (by decide) ?_
  refine lv_iadd S.1 S.2.1 dX12_keepsPast_62 ?_
  refine lv_aload_n S.1 S.2.1 dX12_keepsPast_63 rfl (lv_at hl 1 rfl) ?_
  refine g_aftR0 (st1 := [.int (f_X12_resultNow mPpl mBts mNum (upd (upd (upd mW (247 + (4 * (((mW 1) - 1) - ((mW 1) - 1) / 8 * 8))).toNatClampNeg (mW 5)) ((247 + (4 * (((mW 1) - 1) - ((mW 1) - 1) / 8 * 8))) + 1).toNatClampNeg (f_X12_turnout mPpl (upd mW (247 + (4 * (((mW 1) - 1) - ((mW 1) - 1) / 8 * 8))).toNatClampNeg (mW 5)))) ((247 + (4 * (((mW 1) - 1) - ((mW 1) - 1) / 8 * 8))) + 2).toNatClampNeg ((upd (upd mW (247 + (4 * (((mW 1) - 1) - ((mW 1) - 1) / 8 * 8))).toNatClampNeg (mW 5)) ((247 + (4 * (((mW 1) - 1) - ((mW 1) - 1) / 8 * 8))) + 1).toNatClampNeg (f_X12_turnout mPpl (upd mW (247 + (4 * (((mW 1) - 1) - ((mW 1) - 1) / 8 * 8))).toNatClampNeg (mW 5)))) 4))), .int ((247 + (4 * (((mW 1) - 1) - ((mW 1) - 1) / 8 * 8))) + 3), .ref (α (k + 6))]) (g_V (As := []) (rest := [.int ((247 + (4 * (((mW 1) - 1) - ((mW 1) - 1) / 8 * 8))) + 3), .ref (α (k + 6))]) S mi_X12_resultNow qw1688 (c_X12_resultNow l D A w3 α (k) mTaped mErr mPpl mBts mUs mRa mSt mKi mWd mVal mLet mFin mNp mNb mOuts mWant mFnd mTape mNum mNam mFst mBnm (upd (upd (upd mW (247 + (4 * (((mW 1) - 1) - ((mW 1) - 1) / 8 * 8))).toNatClampNeg (mW 5)) ((247 + (4 * (((mW 1) - 1) - ((mW 1) - 1) / 8 * 8))) + 1).toNatClampNeg (f_X12_turnout mPpl (upd mW (247 + (4 * (((mW 1) - 1) - ((mW 1) - 1) / 8 * 8))).toNatClampNeg (mW 5)))) ((247 + (4 * (((mW 1) - 1) - ((mW 1) - 1) / 8 * 8))) + 2).toNatClampNeg ((upd (upd mW (247 + (4 * (((mW 1) - 1) - ((mW 1) - 1) / 8 * 8))).toNatClampNeg (mW 5)) ((247 + (4 * (((mW 1) - 1) - ((mW 1) - 1) / 8 * 8))) + 1).toNatClampNeg (f_X12_turnout mPpl (upd mW (247 + (4 * (((mW 1) - 1) - ((mW 1) - 1) / 8 * 8))).toNatClampNeg (mW 5)))) 4)) mUn mSl mKp mnNum mnNam mnBo mnBn hB0 (by first | assumption | exact vin_d (by decide) | exact vp_in_nI (by omega) (by decide) | decide | omega) (by rw [upd_ne (past_ne hy0 (vin_d (by decide)) (by decide)), upd_ne (past_ne hy0 (vin_d (by decide)) (by decide)), upd_ne (past_ne0 hy0 (by decide))]; assumption) (by first | assumption | exact vin_d (by decide) | exact vp_in_nI (by omega) (by decide) | decide | omega) (by first | assumption | exact vin_d (by decide) | exact vp_in_nI (by omega) (by decide) | decide | omega)) hK hP hD hE hS (hB0 0 _ rfl) rfl rfl rfl hl.1 (Nat.le_of_ble_eq_true rfl) rfl rfl ⟨(Nat.le_of_ble_eq_true rfl), (Nat.le_of_ble_eq_true rfl)⟩ ⟨(Nat.le_of_ble_eq_true rfl), (Nat.le_of_ble_eq_true rfl)⟩ dX12_keepsPast_64) hS rfl (fun locs hS => ?_)
  refine g_iast S hK hP hD hS (hB0 6 _ rfl) (past_in hy0 (vin_d (by decide))) dX12_keepsPast_67 (fun w4 H locs hw hP hD hS => ?_)
  have hF := Same.set hF 6 hw (by decide)
  have hB0 : Blk w4 k (cM D α k mTaped mErr mPpl mBts mUs mRa mSt mKi mWd mVal mLet mFin mNp mNb mOuts mWant mFnd mTape mNum mNam mFst mBnm (upd (upd (upd (upd mW (247 + (4 * (((mW 1) - 1) - ((mW 1) - 1) / 8 * 8))).toNatClampNeg (mW 5)) ((247 + (4 * (((mW 1) - 1) - ((mW 1) - 1) / 8 * 8))) + 1).toNatClampNeg (f_X12_turnout mPpl (upd mW (247 + (4 * (((mW 1) - 1) - ((mW 1) - 1) / 8 * 8))).toNatClampNeg (mW 5)))) ((247 + (4 * (((mW 1) - 1) - ((mW 1) - 1) / 8 * 8))) + 2).toNatClampNeg ((upd (upd mW (247 + (4 * (((mW 1) - 1) - ((mW 1) - 1) / 8 * 8))).toNatClampNeg (mW 5)) ((247 + (4 * (((mW 1) - 1) - ((mW 1) - 1) / 8 * 8))) + 1).toNatClampNeg (f_X12_turnout mPpl (upd mW (247 + (4 * (((mW 1) - 1) - ((mW 1) - 1) / 8 * 8))).toNatClampNeg (mW 5)))) 4)) ((247 + (4 * (((mW 1) - 1) - ((mW 1) - 1) / 8 * 8))) + 3).toNatClampNeg (f_X12_resultNow mPpl mBts mNum (upd (upd (upd mW (247 + (4 * (((mW 1) - 1) - ((mW 1) - 1) / 8 * 8))).toNatClampNeg (mW 5)) ((247 + (4 * (((mW 1) - 1) - ((mW 1) - 1) / 8 * 8))) + 1).toNatClampNeg (f_X12_turnout mPpl (upd mW (247 + (4 * (((mW 1) - 1) - ((mW 1) - 1) / 8 * 8))).toNatClampNeg (mW 5)))) ((247 + (4 * (((mW 1) - 1) - ((mW 1) - 1) / 8 * 8))) + 2).toNatClampNeg ((upd (upd mW (247 + (4 * (((mW 1) - 1) - ((mW 1) - 1) / 8 * 8))).toNatClampNeg (mW 5)) ((247 + (4 * (((mW 1) - 1) - ((mW 1) - 1) / 8 * 8))) + 1).toNatClampNeg (f_X12_turnout mPpl (upd mW (247 + (4 * (((mW 1) - 1) - ((mW 1) - 1) / 8 * 8))).toNatClampNeg (mW 5)))) 4)))) mUn mSl mKp mnNum mnNam mnBo mnBn) := hB0.set 6 hw (Nat.le_of_ble_eq_true rfl) rfl
  have hf : (f_X12_keepsPast mPpl mBts mNum mW) = (upd (upd (upd (upd mW (247 + (4 * (((mW 1) - 1) - ((mW 1) - 1) / 8 * 8))).toNatClampNeg (mW 5)) ((247 + (4 * (((mW 1) - 1) - ((mW 1) - 1) / 8 * 8))) + 1).toNatClampNeg (f_X12_turnout mPpl (upd mW (247 + (4 * (((mW 1) - 1) - ((mW 1) - 1) / 8 * 8))).toNatClampNeg (mW 5)))) ((247 + (4 * (((mW 1) - 1) - ((mW 1) - 1) / 8 * 8))) + 2).toNatClampNeg ((upd (upd mW (247 + (4 * (((mW 1) - 1) - ((mW 1) - 1) / 8 * 8))).toNatClampNeg (mW 5)) ((247 + (4 * (((mW 1) - 1) - ((mW 1) - 1) / 8 * 8))) + 1).toNatClampNeg (f_X12_turnout mPpl (upd mW (247 + (4 * (((mW 1) - 1) - ((mW 1) - 1) / 8 * 8))).toNatClampNeg (mW 5)))) 4)) ((247 + (4 * (((mW 1) - 1) - ((mW 1) - 1) / 8 * 8))) + 3).toNatClampNeg (f_X12_resultNow mPpl mBts mNum (upd (upd (upd mW (247 + (4 * (((mW 1) - 1) - ((mW 1) - 1) / 8 * 8))).toNatClampNeg (mW 5)) ((247 + (4 * (((mW 1) - 1) - ((mW 1) - 1) / 8 * 8))) + 1).toNatClampNeg (f_X12_turnout mPpl (upd mW (247 + (4 * (((mW 1) - 1) - ((mW 1) - 1) / 8 * 8))).toNatClampNeg (mW 5)))) ((247 + (4 * (((mW 1) - 1) - ((mW 1) - 1) / 8 * 8))) + 2).toNatClampNeg ((upd (upd mW (247 + (4 * (((mW 1) - 1) - ((mW 1) - 1) / 8 * 8))).toNatClampNeg (mW 5)) ((247 + (4 * (((mW 1) - 1) - ((mW 1) - 1) / 8 * 8))) + 1).toNatClampNeg (f_X12_turnout mPpl (upd mW (247 + (4 * (((mW 1) - 1) - ((mW 1) - 1) / 8 * 8))).toNatClampNeg (mW 5)))) 4)))) := rfl
  exact g_vret S hr hlk hP hD hS (rfl) (⟨by rw [hf]; exact hB0, hF⟩) dX12_keepsPast_68
