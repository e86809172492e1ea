
def whl_ {σ : Type} (f : σ → Sum σ σ) : Nat → σ → σ
  | 0, s => s
  | n + 1, s => match f s with
    | .inl s' => whl_ f n s'
    | .inr t => t
theorem whl_i {σ : Type} {f : σ → Sum σ σ} {n : Nat} {s s' : σ} (h : f s = .inl s') : whl_ f (n + 1) s = whl_ f n s' := by rw [whl_, h]
theorem whl_o {σ : Type} {f : σ → Sum σ σ} {n : Nat} {s t : σ} (h : f s = .inr t) : whl_ f (n + 1) s = t := by rw [whl_, h]
/-- a place in the tape -/
def rd_ (a b : Int32) : Prop := ∃ i j : Nat, a = nI i ∧ b = nI j ∧ i ≤ j ∧ j ≤ 800
def rdn (n : Nat) (a b : Int32) : Prop := ∃ i j : Nat, a = nI i ∧ b = nI j ∧ i ≤ j ∧ j ≤ 800 ∧ j < i + n
theorem rdn_0 {a b : Int32} : ¬ rdn 0 a b := fun ⟨i, j, _, _, h, _, h2⟩ => by omega
theorem rdn_rd {n : Nat} {a b : Int32} (h : rdn n a b) : rd_ a b := by
  obtain ⟨i, j, h1, h2, h3, h4, _⟩ := h
  exact ⟨i, j, h1, h2, h3, h4⟩
theorem rdn_of {a b : Int32} (h : rd_ a b) : rdn 801 a b := by
  obtain ⟨i, j, h1, h2, h3, h4⟩ := h
  exact ⟨i, j, h1, h2, h3, h4, by omega⟩
theorem rd_in {a b : Int32} (h : rd_ a b) (c : ¬ b ≤ a) : vp_in a 800 := by
  obtain ⟨i, j, rfl, rfl, h3, h4⟩ := h
  have := mt (nI_leI (a := j) (b := i) (by omega) (by omega)).mpr c
  exact vp_in_nI (by omega) (by decide)
theorem rd_s {a b : Int32} (h : rd_ a b) (c : ¬ b ≤ a) : rd_ (a + 1) b := by
  obtain ⟨i, j, rfl, rfl, h3, h4⟩ := h
  have := mt (nI_leI (a := j) (b := i) (by omega) (by omega)).mpr c
  exact ⟨i + 1, j, (nI_succ i).symm, rfl, by omega, h4⟩
theorem rdn_s {n : Nat} {a b : Int32} (h : rdn (n + 1) a b) (c : ¬ b ≤ a) : rdn n (a + 1) b := by
  obtain ⟨i, j, rfl, rfl, h3, h4, h5⟩ := h
  have := mt (nI_leI (a := j) (b := i) (by omega) (by omega)).mpr c
  exact ⟨i + 1, j, (nI_succ i).symm, rfl, by omega, h4, by omega⟩
theorem rd_ne {a b : Int32} (h : rd_ a b) (c : ¬ a = b) : ¬ b ≤ a := by
  obtain ⟨i, j, rfl, rfl, h3, h4⟩ := h
  intro q
  have := (nI_leI (a := j) (b := i) (by omega) (by omega)).mp q
  exact c (by rw [show i = j by omega])
def f_X12_isByte (mTaped : Int32) (mRa : Int32) (mTape : Nat → Int32) (lo : Int32) (hi : Int32) : Bool := (if mTaped ≤ mRa then false else (if (mTape mRa.toNatClampNeg) < lo then false else (if hi < (mTape mRa.toNatClampNeg) then false else true)))
set_option maxHeartbeats 4000000 in
set_option maxRecDepth 100000 in
theorem c_X12_isByte (l : Launch) (D : va_G) (A : Nat → Prop) (w : va_W) (α : Nat → Nat) (k : Nat) (mTaped : Int32) (mErr : Int32) (mPpl : Int32) (mBts : Int32) (mUs : Int32) (mRa : Int32) (mSt : Int32) (mKi : Int32) (mWd : Int64) (mVal : Int32) (mLet : Int32) (mFin : Int32) (mNp : Int32) (mNb : Int32) (mOuts : Int32) (mWant : Int32) (mFnd : Int32) (mTape : Nat → Int32) (mNum : Nat → Int32) (mNam : Nat → Int32) (mFst : Nat → Int32) (mBnm : Nat → Int32) (mW : Nat → Int32) (mUn : Nat → Int32) (mSl : Nat → Int32) (mKp : Nat → Int32) (mnNum : Nat → Int32) (mnNam : Nat → Int32) (mnBo : Nat → Int32) (mnBn : Nat → Int32) (lo : Int32) (hi : Int32) (hB0 : Blk w k (cM D α k mTaped mErr mPpl mBts mUs mRa mSt mKi mWd mVal mLet mFin mNp mNb mOuts mWant mFnd mTape mNum mNam mFst mBnm mW mUn mSl mKp mnNum mnNam mnBo mnBn)) (hy0 : rd_ mRa mTaped) : Met l yX12_isByte (ws_ yX12_isByte cX12_isByte 3 (some .boolean)) ({ frames := 0, cells := 0, slots := 0, locals := 0 }) (gPre D A [.ref (α (k)), .int lo, .int hi] w) (gR (some (.int (b2i (f_X12_isByte mTaped mRa mTape lo hi))))) 0 0 A := by
  refine g_met [(0, .ref (α (k))), (1, .int lo), (2, .int hi)] (plainFor_of_name (by decide)) (Nat.le_of_ble_eq_true rfl) rfl (fun pg en s mi ar below me co ls S hK hP hD hE hS hr hlk hnm hl => ?_)
  refine lv_aload_n S.1 S.2.1 dX12_isByte_0 rfl (lv_at hl 0 rfl) ?_
  refine g_get (v := .int mRa) S hK hP (hB0 0 _ rfl) rfl inX12 14 (by decide) qw1388 rfl dX12_isByte_1 ?_
  refine lv_aload_n S.1 S.2.1 dX12_isByte_4 rfl (lv_at hl 0 rfl) ?_
  refine g_get (v := .int mTaped) S hK hP (hB0 0 _ rfl) rfl inX12 1 (by decide) qw1375 rfl dX12_isByte_5 ?_
  refine lv_icmp_ge (tgt := 41) S.1 S.2.1 dX12_isByte_8 (by decide) (fun (c1 : mTaped ≤ mRa) => ?_) (fun (c1 : ¬ mTaped ≤ mRa) => ?_)
  · refine lv_iconst (v := 0) S.1 S.2.1 dX12_isByte_41 (by decide) ?_
    have hf : (f_X12_isByte mTaped mRa mTape lo hi) = false := if_pos c1
    exact g_zretR S hr hlk hS rfl (by rw [hf] <;> rfl) dX12_isByte_42
  · refine lv_aload_n S.1 S.2.1 dX12_isByte_11 rfl (lv_at hl 0 rfl) ?_
    refine g_get (v := .ref (α (k + 1))) S hK hP (hB0 0 _ rfl) rfl inX12 0 (by decide) qw1374 rfl dX12_isByte_12 ?_
    refine lv_aload_n S.1 S.2.1 dX12_isByte_15 rfl (lv_at hl 0 rfl) ?_
    refine g_get (v := .int mRa) S hK hP (hB0 0 _ rfl) rfl inX12 14 (by decide) qw1388 rfl dX12_isByte_16 ?_
    refine g_bald S hK hP (hB0 1 _ rfl) (rd_in hy0 (by assumption)) dX12_isByte_19 ?_
    refine lv_iload_n S.1 S.2.1 dX12_isByte_20 rfl (lv_at hl 1 rfl) ?_
    refine lv_icmp_lt (tgt := 41) S.1 S.2.1 dX12_isByte_21 (by decide) (fun (c2 : (mTape mRa.toNatClampNeg) < lo) => ?_) (fun (c2 : ¬ (mTape mRa.toNatClampNeg) < lo) => ?_)
    · refine lv_iconst (v := 0) S.1 S.2.1 dX12_isByte_41 (by decide) ?_
      have hf : (f_X12_isByte mTaped mRa mTape lo hi) = false := (if_neg c1).trans (if_pos c2)
      exact g_zretR S hr hlk hS rfl (by rw [hf] <;> rfl) dX12_isByte_42
    · refine lv_aload_n S.1 S.2.1 dX12_isByte_24 rfl (lv_at hl 0 rfl) ?_
      refine g_get (v := .ref (α (k + 1))) S hK hP (hB0 0 _ rfl) rfl inX12 0 (by decide) qw1374 rfl dX12_isByte_25 ?_
      refine lv_aload_n S.1 S.2.1 dX12_isByte_28 rfl (lv_at hl 0 rfl) ?_
      refine g_get (v := .int mRa) S hK hP (hB0 0 _ rfl) rfl inX12 14 (by decide) qw1388 rfl dX12_isByte_29 ?_
      refine g_bald S hK hP (hB0 1 _ rfl) (rd_in hy0 (by assumption)) dX12_isByte_32 ?_
      refine lv_iload_n S.1 S.2.1 dX12_isByte_33 rfl (lv_at hl 2 rfl) ?_
      refine lv_icmp_gt (tgt := 41) S.1 S.2.1 dX12_isByte_34 (by decide) (fun (c3 : hi < (mTape mRa.toNatClampNeg)) => ?_) (fun (c3 : ¬ hi < (mTape mRa.toNatClampNeg)) => ?_)
      · refine lv_iconst (v := 0) S.1 S.2.1 dX12_isByte_41 (by decide) ?_
        have hf : (f_X12_isByte mTaped mRa mTape lo hi) = false := (if_neg c1).trans ((if_neg c2).trans (if_pos c3))
        exact g_zretR S hr hlk hS rfl (by rw [hf] <;> rfl) dX12_isByte_42
      · refine lv_iconst (v := 1) S.1 S.2.1 dX12_isByte_37 (by decide) ?_
        refine lv_goto (tgt := 42) S.1 S.2.1 dX12_isByte_38 (by decide) ?_
        have hf : (f_X12_isByte mTaped mRa mTape lo hi) = true := (if_neg c1).trans ((if_neg c2).trans (if_neg c3))
        exact g_zretR S hr hlk hS rfl (by rw [hf] <;> rfl) dX12_isByte_42

theorem isByte_lt {mTaped mRa lo hi : Int32} {mTape : Nat → Int32} (c : f_X12_isByte mTaped mRa mTape lo hi = true) : ¬ mTaped ≤ mRa := by
  intro h
  unfold f_X12_isByte at c
  rw [if_pos h] at c
  cases c
def f_X12_isKey (x : Int64) : Bool := (if x = 642829806 then true else (if x = 645974195 then true else (if x = 398963 then true else (if x = 12748404 then true else (if x = 3197529 then true else (if x = 50861100 then true else (if x = 623961094803 then true else (if x = 80948 then true else (if x = 542723566 then true else (if x = 486 then true else false))))))))))
set_option maxHeartbeats 4000000 in
set_option maxRecDepth 100000 in
theorem c_X12_isKey (l : Launch) (D : va_G) (A : Nat → Prop) (w : va_W) (α : Nat → Nat) (x : Int64) : Met l yX12_isKey (ws_ yX12_isKey cX12_isKey 2 (some .boolean)) ({ frames := 0, cells := 0, slots := 0, locals := 0 }) (gPre D A [.long x] w) (gR (some (.int (b2i (f_X12_isKey x))))) 0 0 A := by
  refine g_met [(0, .long x)] (plainFor_of_name (by decide)) (Nat.le_of_ble_eq_true rfl) rfl (fun pg en s mi ar below me co ls S hK hP hD hE hS hr hlk hnm hl => ?_)
  refine lv_lload_n S.1 S.2.1 dX12_isKey_0 rfl (lv_at hl 0 rfl) ?_
  refine lv_ldc2 (v := 642829806) S.1 S.2.1 S.2.2.2.1 (S.2.2.2.2 _ qw1504) dX12_isKey_1 ?_
  refine W.lcmp S.1 S.2.1 dX12_isKey_4 ?_
  refine lv_if_eq (tgt := 80) S.1 S.2.1 dX12_isKey_5 (by decide) (fun c1 => ?_) (fun c1 => ?_)
  · have c1 : x = 642829806 := lgc0.mp c1
    refine lv_iconst (v := 1) S.1 S.2.1 dX12_isKey_80 (by decide) ?_
    refine lv_goto (tgt := 85) S.1 S.2.1 dX12_isKey_81 (by decide) ?_
    have hf : (f_X12_isKey x) = true := if_pos c1
    exact g_zretR S hr hlk hS rfl (by rw [hf] <;> rfl) dX12_isKey_85
  · have c1 : ¬ (x = 642829806) := fun h => c1 (lgc0.mpr h)
    refine lv_lload_n S.1 S.2.1 dX12_isKey_8 rfl (lv_at hl 0 rfl) ?_
    refine lv_ldc2 (v := 645974195) S.1 S.2.1 S.2.2.2.1 (S.2.2.2.2 _ qw1505) dX12_isKey_9 ?_
    refine W.lcmp S.1 S.2.1 dX12_isKey_12 ?_
    refine lv_if_eq (tgt := 80) S.1 S.2.1 dX12_isKey_13 (by decide) (fun c2 => ?_) (fun c2 => ?_)
    · have c2 : x = 645974195 := lgc0.mp c2
      refine lv_iconst (v := 1) S.1 S.2.1 dX12_isKey_80 (by decide) ?_
      refine lv_goto (tgt := 85) S.1 S.2.1 dX12_isKey_81 (by decide) ?_
      have hf : (f_X12_isKey x) = true := (if_neg c1).trans (if_pos c2)
      exact g_zretR S hr hlk hS rfl (by rw [hf] <;> rfl) dX12_isKey_85
    · have c2 : ¬ (x = 645974195) := fun h => c2 (lgc0.mpr h)
      refine lv_lload_n S.1 S.2.1 dX12_isKey_16 rfl (lv_at hl 0 rfl) ?_
      refine lv_ldc2 (v := 398963) S.1 S.2.1 S.2.2.2.1 (S.2.2.2.2 _ qw1506) dX12_isKey_17 ?_
      refine W.lcmp S.1 S.2.1 dX12_isKey_20 ?_
      refine lv_if_eq (tgt := 80) S.1 S.2.1 dX12_isKey_21 (by decide) (fun c3 => ?_) (fun c3 => ?_)
      · have c3 : x = 398963 := lgc0.mp c3
        refine lv_iconst (v := 1) S.1 S.2.1 dX12_isKey_80 (by decide) ?_
        refine lv_goto (tgt := 85) S.1 S.2.1 dX12_isKey_81 (by decide) ?_
        have hf : (f_X12_isKey x) = true := (if_neg c1).trans ((if_neg c2).trans (if_pos c3))
        exact g_zretR S hr hlk hS rfl (by rw [hf] <;> rfl) dX12_isKey_85
      · have c3 : ¬ (x = 398963) := fun h => c3 (lgc0.mpr h)
        refine lv_lload_n S.1 S.2.1 dX12_isKey_24 rfl (lv_at hl 0 rfl) ?_
        refine lv_ldc2 (v := 12748404) S.1 S.2.1 S.2.2.2.1 (S.2.2.2.2 _ qw1507) dX12_isKey_25 ?_
        refine W.lcmp S.1 S.2.1 dX12_isKey_28 ?_
        refine lv_if_eq (tgt := 80) S.1 S.2.1 dX12_isKey_29 (by decide) (fun c4 => ?_) (fun c4 => ?_)
        · have c4 : x = 12748404 := lgc0.mp c4
          refine lv_iconst (v := 1) S.1 S.2.1 dX12_isKey_80 (by decide) ?_
          refine lv_goto (tgt := 85) S.1 S.2.1 dX12_isKey_81 (by decide) ?_
          have hf : (f_X12_isKey x) = true := (if_neg c1).trans ((if_neg c2).trans ((if_neg c3).trans (if_pos c4)))
          exact g_zretR S hr hlk hS rfl (by rw [hf] <;> rfl) dX12_isKey_85
        · have c4 : ¬ (x = 12748404) := fun h => c4 (lgc0.mpr h)
          refine lv_lload_n S.1 S.2.1 dX12_isKey_32 rfl (lv_at hl 0 rfl) ?_
          refine lv_ldc2 (v := 3197529) S.1 S.2.1 S.2.2.2.1 (S.2.2.2.2 _ qw1508) dX12_isKey_33 ?_
          refine W.lcmp S.1 S.2.1 dX12_isKey_36 ?_
          refine lv_if_eq (tgt := 80) S.1 S.2.1 dX12_isKey_37 (by decide) (fun c5 => ?_) (fun c5 => ?_)
          · have c5 : x = 3197529 := lgc0.mp c5
            refine lv_iconst (v := 1) S.1 S.2.1 dX12_isKey_80 (by decide) ?_
            refine lv_goto (tgt := 85) S.1 S.2.1 dX12_isKey_81 (by decide) ?_
            have hf : (f_X12_isKey x) = true := (if_neg c1).trans ((if_neg c2).trans ((if_neg c3).trans ((if_neg c4).trans (if_pos c5))))
            exact g_zretR S hr hlk hS rfl (by rw [hf] <;> rfl) dX12_isKey_85
          · have c5 : ¬ (x = 3197529) := fun h => c5 (lgc0.mpr h)
            refine lv_lload_n S.1 S.2.1 dX12_isKey_40 rfl (lv_at hl 0 rfl) ?_
            refine lv_ldc2 (v := 50861100) S.1 S.2.1 S.2.2.2.1 (S.2.2.2.2 _ qw1509) dX12_isKey_41 ?_
            refine W.lcmp S.1 S.2.1 dX12_isKey_44 ?_
            refine lv_if_eq (tgt := 80) S.1 S.2.1 dX12_isKey_45 (by decide) (fun c6 => ?_) (fun c6 => ?_)
            · have c6 : x = 50861100 := lgc0.mp c6
              refine lv_iconst (v := 1) S.1 S.2.1 dX12_isKey_80 (by decide) ?_
              refine lv_goto (tgt := 85) S.1 S.2.1 dX12_isKey_81 (by decide) ?_
              have hf : (f_X12_isKey x) = true := (if_neg c1).trans ((if_neg c2).trans ((if_neg c3).trans ((if_neg c4).trans ((if_neg c5).trans (if_pos c6)))))
              exact g_zretR S hr hlk hS rfl (by rw [hf] <;> rfl) dX12_isKey_85
            · have c6 : ¬ (x = 50861100) := fun h => c6 (lgc0.mpr h)
              refine lv_lload_n S.1 S.2.1 dX12_isKey_48 rfl (lv_at hl 0 rfl) ?_
              refine lv_ldc2 (v := 623961094803) S.1 S.2.1 S.2.2.2.1 (S.2.2.2.2 _ qw1510) dX12_isKey_49 ?_
              refine W.lcmp S.1 S.2.1 dX12_isKey_52 ?_
              refine lv_if_eq (tgt := 80) S.1 S.2.1 dX12_isKey_53 (by decide) (fun c7 => ?_) (fun c7 => ?_)
              · have c7 : x = 623961094803 := lgc0.mp c7
                refine lv_iconst (v := 1) S.1 S.2.1 dX12_isKey_80 (by decide) ?_
                refine lv_goto (tgt := 85) S.1 S.2.1 dX12_isKey_81 (by decide) ?_
                have hf : (f_X12_isKey x) = true := (if_neg c1).trans ((if_neg c2).trans ((if_neg c3).trans ((if_neg c4).trans ((if_neg c5).trans ((if_neg c6).trans (if_pos c7))))))
                exact g_zretR S hr hlk hS rfl (by rw [hf] <;> rfl) dX12_isKey_85
              · have c7 : ¬ (x = 623961094803) := fun h => c7 (lgc0.mpr h)
                refine lv_lload_n S.1 S.2.1 dX12_isKey_56 rfl (lv_at hl 0 rfl) ?_
                refine lv_ldc2 (v := 80948) S.1 S.2.1 S.2.2.2.1 (S.2.2.2.2 _ qw1511) dX12_isKey_57 ?_
                refine W.lcmp S.1 S.2.1 dX12_isKey_60 ?_
                refine lv_if_eq (tgt := 80) S.1 S.2.1 dX12_isKey_61 (by decide) (fun c8 => ?_) (fun c8 => ?_)
                · have c8 : x = 80948 := lgc0.mp c8
                  refine lv_iconst (v := 1) S.1 S.2.1 dX12_isKey_80 (by decide) ?_
                  refine lv_goto (tgt := 85) S.1 S.2.1 dX12_isKey_81 (by decide) ?_
                  have hf : (f_X12_isKey x) = true := (if_neg c1).trans ((if_neg c2).trans ((if_neg c3).trans ((if_neg c4).trans ((if_neg c5).trans ((if_neg c6).trans ((if_neg c7).trans (if_pos c8)))))))
                  exact g_zretR S hr hlk hS rfl (by rw [hf] <;> rfl) dX12_isKey_85
                · have c8 : ¬ (x = 80948) := fun h => c8 (lgc0.mpr h)
                  refine lv_lload_n S.1 S.2.1 dX12_isKey_64 rfl (lv_at hl 0 rfl) ?_
                  refine lv_ldc2 (v := 542723566) S.1 S.2.1 S.2.2.2.1 (S.2.2.2.2 _ qw1512) dX12_isKey_65 ?_
                  refine W.lcmp S.1 S.2.1 dX12_isKey_68 ?_
                  refine lv_if_eq (tgt := 80) S.1 S.2.1 dX12_isKey_69 (by decide) (fun c9 => ?_) (fun c9 => ?_)
                  · have c9 : x = 542723566 := lgc0.mp c9
                    refine lv_iconst (v := 1) S.1 S.2.1 dX12_isKey_80 (by decide) ?_
                    refine lv_goto (tgt := 85) S.1 S.2.1 dX12_isKey_81 (by decide) ?_
                    have hf : (f_X12_isKey x) = true := (if_neg c1).trans ((if_neg c2).trans ((if_neg c3).trans ((if_neg c4).trans ((if_neg c5).trans ((if_neg c6).trans ((if_neg c7).trans ((if_neg c8).trans (if_pos c9))))))))
                    exact g_zretR S hr hlk hS rfl (by rw [hf] <;> rfl) dX12_isKey_85
                  · have c9 : ¬ (x = 542723566) := fun h => c9 (lgc0.mpr h)
                    refine lv_lload_n S.1 S.2.1 dX12_isKey_72 rfl (lv_at hl 0 rfl) ?_
                    refine lv_ldc2 (v := 486) S.1 S.2.1 S.2.2.2.1 (S.2.2.2.2 _ qw1513) dX12_isKey_73 ?_
                    refine W.lcmp S.1 S.2.1 dX12_isKey_76 ?_
                    refine lv_if_ne (tgt := 84) S.1 S.2.1 dX12_isKey_77 (by decide) (fun c10 => ?_) (fun c10 => ?_)
                    · have c10 : ¬ (x = 486) := fun h => c10 (lgc0.mpr h)
                      refine lv_iconst (v := 0) S.1 S.2.1 dX12_isKey_84 (by decide) ?_
                      have hf : (f_X12_isKey x) = false := (if_neg c1).trans ((if_neg c2).trans ((if_neg c3).trans ((if_neg c4).trans ((if_neg c5).trans ((if_neg c6).trans ((if_neg c7).trans ((if_neg c8).trans ((if_neg c9).trans (if_neg c10)))))))))
                      exact g_zretR S hr hlk hS rfl (by rw [hf] <;> rfl) dX12_isKey_85
                    · have c10 : x = 486 := lgc0.mp c10
                      refine lv_iconst (v := 1) S.1 S.2.1 dX12_isKey_80 (by decide) ?_
                      refine lv_goto (tgt := 85) S.1 S.2.1 dX12_isKey_81 (by decide) ?_
                      have hf : (f_X12_isKey x) = true := (if_neg c1).trans ((if_neg c2).trans ((if_neg c3).trans ((if_neg c4).trans ((if_neg c5).trans ((if_neg c6).trans ((if_neg c7).trans ((if_neg c8).trans ((if_neg c9).trans (if_pos c10)))))))))
                      exact g_zretR S hr hlk hS rfl (by rw [hf] <;> rfl) dX12_isKey_85
def J_X12_nextWord_52 (mSt : Int32) (mTape : Nat → Int32) (sw10 : Int32 × Int32 × Int64) : Int32 := (if 6 ≤ (sw10.2.1 - mSt) then 0 else (((mTape sw10.2.1.toNatClampNeg) - 96) <<< ((25 - (5 * (sw10.2.1 - mSt))) &&& 31)))
def J_X12_nextWord_75 (mSt : Int32) (mTape : Nat → Int32) (sw10 : Int32 × Int32 × Int64) : Int64 := (if 8 ≤ (sw10.2.1 - mSt) then 0 else ((32 * sw10.2.2) + ((mTape sw10.2.1.toNatClampNeg) - 96).toInt64))
def T_X12_nextWord_10 (mTaped : Int32) (mSt : Int32) (mTape : Nat → Int32) (sw10 : Int32 × Int32 × Int64) : Sum (Int32 × Int32 × Int64) (Int32 × Int32 × Int64) := (bif (f_X12_isByte mTaped sw10.2.1 mTape 97 122) then (.inl ((sw10.1 ||| (J_X12_nextWord_52 mSt mTape sw10)), (sw10.2.1 + 1), (J_X12_nextWord_75 mSt mTape sw10))) else (.inr (sw10.1, sw10.2.1, sw10.2.2)))
def X_X12_nextWord_10 (mTaped : Int32) (mRa : Int32) (mSt : Int32) (mTape : Nat → Int32) : Int32 × Int32 × Int64 := whl_ ((T_X12_nextWord_10 mTaped mSt mTape)) 801 (0, mRa, 0)
def J_X12_nextWord_121 (mTaped : Int32) (mRa : Int32) (mSt : Int32) (mTape : Nat → Int32) : Int32 := (if 9 ≤ ((X_X12_nextWord_10 mTaped mRa mSt mTape).2.1 - mSt) then (if 7 ≤ ((X_X12_nextWord_10 mTaped mRa mSt mTape).2.1 - mSt) then 5 else 1) else (bif (f_X12_isKey ((X_X12_nextWord_10 mTaped mRa mSt mTape).2.2)) then 2 else (if 7 ≤ ((X_X12_nextWord_10 mTaped mRa mSt mTape).2.1 - mSt) then 5 else 1)))
def f_X12_nextWord (mTaped : Int32) (mRa : Int32) (mSt : Int32) (mTape : Nat → Int32) : Int32 × Int32 × Int32 × Int64 := ((J_X12_nextWord_121 mTaped mRa mSt mTape), (X_X12_nextWord_10 mTaped mRa mSt mTape).1, (X_X12_nextWord_10 mTaped mRa mSt mTape).2.1, (X_X12_nextWord_10 mTaped mRa mSt mTape).2.2)
set_option maxHeartbeats 4000000 in
set_option maxRecDepth 100000 in
theorem c_X12_nextWord (l : Launch) (D : va_G) (A : Nat → Prop) (w : va_W) (α : Nat → Nat) (k : Nat) (mTaped : Int32) (mErr : Int32) (mPpl : Int32) (mBts : Int32) (mUs : Int32) (mRa : Int32) (mSt : Int32) (mKi : Int32) (mWd : Int64) (mVal : Int32) (mLet : Int32) (mFin : Int32) (mNp : Int32) (mNb : Int32) (mOuts : Int32) (mWant : Int32) (mFnd : Int32) (mTape : Nat → Int32) (mNum : Nat → Int32) (mNam : Nat → Int32) (mFst : Nat → Int32) (mBnm : Nat → Int32) (mW : Nat → Int32) (mUn : Nat → Int32) (mSl : Nat → Int32) (mKp : Nat → Int32) (mnNum : Nat → Int32) (mnNam : Nat → Int32) (mnBo : Nat → Int32) (mnBn : Nat → Int32) (hB0 : Blk w k (cM D α k mTaped mErr mPpl mBts mUs mRa mSt mKi mWd mVal mLet mFin mNp mNb mOuts mWant mFnd mTape mNum mNam mFst mBnm mW mUn mSl mKp mnNum mnNam mnBo mnBn)) (hy0 : rd_ mRa mTaped) : Met l yX12_nextWord (ws_ yX12_nextWord cX12_nextWord 3 none) ({ frames := 1, cells := 0, slots := 0, locals := 22 }) (gPre D A [.ref (α (k))] w) (gQ D A none (fun w1 => Blk w1 k (cM D α k mTaped mErr mPpl mBts mUs ((f_X12_nextWord mTaped mRa mSt mTape).2.2.1) mSt ((f_X12_nextWord mTaped mRa mSt mTape).1) ((f_X12_nextWord mTaped mRa mSt mTape).2.2.2) mVal ((f_X12_nextWord mTaped mRa mSt mTape).2.1) mFin mNp mNb mOuts mWant mFnd mTape mNum mNam mFst mBnm mW mUn mSl mKp mnNum mnNam mnBo mnBn) ∧ Same w w1 k 14 ∧ (rd_ (f_X12_nextWord mTaped mRa mSt mTape).2.2.1 mTaped))) 0 0 A := by
  refine g_met [(0, .ref (α (k)))] (plainFor_of_name (by decide)) (Nat.le_of_ble_eq_true rfl) rfl (fun pg en s mi ar below me co ls S hK hP hD hE hS hr hlk hnm hl => ?_)
  have hF : Same w w k 14 := Same.rf
  refine lv_aload_n S.1 S.2.1 dX12_nextWord_0 rfl (lv_at hl 0 rfl) ?_
  refine lv_lconst (v := 0) S.1 S.2.1 dX12_nextWord_1 (by decide) ?_
  refine g_put S hK hP hD hS (hB0 0 _ rfl) rfl inX12 tyX12_ok nmX12 17 (by decide) qw1391 rfl rfl rfl (Nat.le_of_ble_eq_true rfl) dX12_nextWord_2 (fun w1 H locs hw hP hD hS => ?_)
  have hF := Same.set hF 0 hw (by decide)
  have hB0 : Blk w1 k (cM D α k mTaped mErr mPpl mBts mUs mRa mSt mKi 0 mVal mLet mFin mNp mNb mOuts mWant mFnd mTape mNum mNam mFst mBnm mW mUn mSl mKp mnNum mnNam mnBo mnBn) := hB0.set 0 hw (Nat.le_of_ble_eq_true rfl) rfl
  refine lv_aload_n S.1 S.2.1 dX12_nextWord_5 rfl (lv_at hl 0 rfl) ?_
  refine lv_iconst (v := 0) S.1 S.2.1 dX12_nextWord_6 (by decide) ?_
  refine g_put S hK hP hD hS (hB0 0 _ rfl) rfl inX12 tyX12_ok nmX12 19 (by decide) qw1393 rfl rfl rfl (Nat.le_of_ble_eq_true rfl) dX12_nextWord_7 (fun w2 H locs hw hP hD hS => ?_)
  have hF := Same.set hF 0 hw (by decide)
  have hB0 : Blk w2 k (cM D α k mTaped mErr mPpl mBts mUs mRa mSt mKi 0 mVal 0 mFin mNp mNb mOuts mWant mFnd mTape mNum mNam mFst mBnm mW mUn mSl mKp mnNum mnNam mnBo mnBn) := hB0.set 0 hw (Nat.le_of_ble_eq_true rfl) rfl
  have jw10 : (rd_ ((X_X12_nextWord_10 mTaped mRa mSt mTape).2.1) mTaped) → ∀ (wl : va_W) (H : Heap) (locs : List Loc) (ls : Array Slot), va_P D vwCl wl H → va_D A wl → va_S A s.heap H locs → Same w wl k 14 → Blk wl k (cM D α k mTaped mErr mPpl mBts mUs ((X_X12_nextWord_10 mTaped mRa mSt mTape).2.1) mSt mKi ((X_X12_nextWord_10 mTaped mRa mSt mTape).2.2) mVal ((X_X12_nextWord_10 mTaped mRa mSt mTape).1) mFin mNp mNb mOuts mWant mFnd mTape mNum mNam mFst mBnm mW mUn mSl mKp mnNum mnNam mnBo mnBn) → lv_has ls 3 [(0, .ref (α (k)))] → W pg l en ({ frames := 1, cells := 0, slots := 0, locals := 22 } : Room) s mi ar below me co H locs 0 0 (MQ below (gQ D A none (fun w1 => Blk w1 k (cM D α k mTaped mErr mPpl mBts mUs ((f_X12_nextWord mTaped mRa mSt mTape).2.2.1) mSt ((f_X12_nextWord mTaped mRa mSt mTape).1) ((f_X12_nextWord mTaped mRa mSt mTape).2.2.2) mVal ((f_X12_nextWord mTaped mRa mSt mTape).2.1) mFin mNp mNb mOuts mWant mFnd mTape mNum mNam mFst mBnm mW mUn mSl mKp mnNum mnNam mnBo mnBn) ∧ Same w w1 k 14 ∧ (rd_ (f_X12_nextWord mTaped mRa mSt mTape).2.2.1 mTaped))) ar s 0 0 A) (F0 mi 109 ls []) := by
    intro hpo wl H locs ls hP hD hS hF hB0 hl
    refine lv_aload_n S.1 S.2.1 dX12_nextWord_109 rfl (lv_at hl 0 rfl) ?_
    refine lv_aload_n S.1 S.2.1 dX12_nextWord_110 rfl (lv_at hl 0 rfl) ?_
    refine g_get (v := .int ((X_X12_nextWord_10 mTaped mRa mSt mTape).2.1)) S hK hP (hB0 0 _ rfl) rfl inX12 14 (by decide) qw1388 rfl dX12_nextWord_111 ?_
    refine lv_aload_n S.1 S.2.1 dX12_nextWord_114 rfl (lv_at hl 0 rfl) ?_
    refine g_get (v := .int mSt) S hK hP (hB0 0 _ rfl) rfl inX12 15 (by decide) qw1389 rfl dX12_nextWord_115 ?_
    refine lv_isub S.1 S.2.1 dX12_nextWord_118 ?_
    refine lv_bipush (v := 9) S.1 S.2.1 dX12_nextWord_119 (by decide) ?_
    have jn121 : ∀ (wl : va_W) (H : Heap) (locs : List Loc) (ls : Array Slot), va_P D vwCl wl H → va_D A wl → va_S A s.heap H locs → Same w wl k 14 → Blk wl k (cM D α k mTaped mErr mPpl mBts mUs ((X_X12_nextWord_10 mTaped mRa mSt mTape).2.1) mSt mKi ((X_X12_nextWord_10 mTaped mRa mSt mTape).2.2) mVal ((X_X12_nextWord_10 mTaped mRa mSt mTape).1) mFin mNp mNb mOuts mWant mFnd mTape mNum mNam mFst mBnm mW mUn mSl mKp mnNum mnNam mnBo mnBn) → lv_has ls 3 [(0, .ref (α (k)))] → W pg l en ({ frames := 1, cells := 0, slots := 0, locals := 22 } : Room) s mi ar below me co H locs 0 0 (MQ below (gQ D A none (fun w1 => Blk w1 k (cM D α k mTaped mErr mPpl mBts mUs ((f_X12_nextWord mTaped mRa mSt mTape).2.2.1) mSt ((f_X12_nextWord mTaped mRa mSt mTape).1) ((f_X12_nextWord mTaped mRa mSt mTape).2.2.2) mVal ((f_X12_nextWord mTaped mRa mSt mTape).2.1) mFin mNp mNb mOuts mWant mFnd mTape mNum mNam mFst mBnm mW mUn mSl mKp mnNum mnNam mnBo mnBn) ∧ Same w w1 k 14 ∧ (rd_ (f_X12_nextWord mTaped mRa mSt mTape).2.2.1 mTaped))) ar s 0 0 A) (F0 mi 157 ls [.int (J_X12_nextWord_121 mTaped mRa mSt mTape), .ref (α (k))]) := by
      intro wl H locs ls hP hD hS hF hB0 hl
      refine g_put S hK hP hD hS (hB0 0 _ rfl) rfl inX12 tyX12_ok nmX12 16 (by decide) qw1390 rfl rfl rfl (Nat.le_of_ble_eq_true rfl) dX12_nextWord_157 (fun w3 H locs hw hP hD hS => ?_)
      have hF := Same.set hF 0 hw (by decide)
      have hB0 : Blk w3 k (cM D α k mTaped mErr mPpl mBts mUs ((X_X12_nextWord_10 mTaped mRa mSt mTape).2.1) mSt (J_X12_nextWord_121 mTaped mRa mSt mTape) ((X_X12_nextWord_10 mTaped mRa mSt mTape).2.2) mVal ((X_X12_nextWord_10 mTaped mRa mSt mTape).1) mFin mNp mNb mOuts mWant mFnd mTape mNum mNam mFst mBnm mW mUn mSl mKp mnNum mnNam mnBo mnBn) := hB0.set 0 hw (Nat.le_of_ble_eq_true rfl) rfl
      have hf : (f_X12_nextWord mTaped mRa mSt mTape) = ((J_X12_nextWord_121 mTaped mRa mSt mTape), (X_X12_nextWord_10 mTaped mRa mSt mTape).1, (X_X12_nextWord_10 mTaped mRa mSt mTape).2.1, (X_X12_nextWord_10 mTaped mRa mSt mTape).2.2) := rfl
      exact g_vret S hr hlk hP hD hS (rfl) (⟨by rw [hf]; exact hB0, hF, by rw [hf]; exact hpo⟩) dX12_nextWord_160
    refine lv_icmp_ge (tgt := 138) S.1 S.2.1 dX12_nextWord_121 (by decide) (fun (c1 : 9 ≤ ((X_X12_nextWord_10 mTaped mRa mSt mTape).2.1 - mSt)) => ?_) (fun (c1 : ¬ 9 ≤ ((X_X12_nextWord_10 mTaped mRa mSt mTape).2.1 - mSt)) => ?_)
    · refine lv_aload_n S.1 S.2.1 dX12_nextWord_138 rfl (lv_at hl 0 rfl) ?_
      refine g_get (v := .int ((X_X12_nextWord_10 mTaped mRa mSt mTape).2.1)) S hK hP (hB0 0 _ rfl) rfl inX12 14 (by decide) qw1388 rfl dX12_nextWord_139 ?_
      refine lv_aload_n S.1 S.2.1 dX12_nextWord_142 rfl (lv_at hl 0 rfl) ?_
      refine g_get (v := .int mSt) S hK hP (hB0 0 _ rfl) rfl inX12 15 (by decide) qw1389 rfl dX12_nextWord_143 ?_
      refine lv_isub S.1 S.2.1 dX12_nextWord_146 ?_
      refine lv_bipush (v := 7) S.1 S.2.1 dX12_nextWord_147 (by decide) ?_
      refine lv_icmp_ge (tgt := 156) S.1 S.2.1 dX12_nextWord_149 (by decide) (fun (c2 : 7 ≤ ((X_X12_nextWord_10 mTaped mRa mSt mTape).2.1 - mSt)) => ?_) (fun (c2 : ¬ 7 ≤ ((X_X12_nextWord_10 mTaped mRa mSt mTape).2.1 - mSt)) => ?_)
      · refine lv_iconst (v := 5) S.1 S.2.1 dX12_nextWord_156 (by decide) ?_
        have hJ : (J_X12_nextWord_121 mTaped mRa mSt mTape) = 5 := (if_pos c1).trans (if_pos c2)
        have qj := jn121
        rw [hJ] at qj
        exact qj _ _ _ _ hP hD hS hF hB0 (lv_sub hl [0] rfl)
      · refine lv_iconst (v := 1) S.1 S.2.1 dX12_nextWord_152 (by decide) ?_
        refine lv_goto (tgt := 157) S.1 S.2.1 dX12_nextWord_153 (by decide) ?_
        have hJ : (J_X12_nextWord_121 mTaped mRa mSt mTape) = 1 := (if_pos c1).trans (if_neg c2)
        have qj := jn121
        rw [hJ] at qj
        exact qj _ _ _ _ hP hD hS hF hB0 (lv_sub hl [0] rfl)
    · refine lv_aload_n S.1 S.2.1 dX12_nextWord_124 rfl (lv_at hl 0 rfl) ?_
      refine g_get (v := .long ((X_X12_nextWord_10 mTaped mRa mSt mTape).2.2)) S hK hP (hB0 0 _ rfl) rfl inX12 17 (by decide) qw1391 rfl dX12_nextWord_125 ?_
      refine g_aftR0 (st1 := [.int (b2i (f_X12_isKey ((X_X12_nextWord_10 mTaped mRa mSt mTape).2.2))), .ref (α (k))]) (g_St (As := [.long ((X_X12_nextWord_10 mTaped mRa mSt mTape).2.2)]) (rest := [.ref (α (k))]) S ms_X12_isKey qw1501 (c_X12_isKey l D A wl α ((X_X12_nextWord_10 mTaped mRa mSt mTape).2.2)) hK hP hD hE hS rfl rfl hl.1 (Nat.le_of_ble_eq_true rfl) rfl rfl ⟨(Nat.le_of_ble_eq_true rfl), (Nat.le_of_ble_eq_true rfl)⟩ ⟨(Nat.le_of_ble_eq_true rfl), (Nat.le_of_ble_eq_true rfl)⟩ dX12_nextWord_128) hS rfl (fun locs hS => ?_)
      refine g_bifeq (b := (f_X12_isKey ((X_X12_nextWord_10 mTaped mRa mSt mTape).2.2))) (tgt := 138) S dX12_nextWord_131 (by decide) (fun (c3 : (f_X12_isKey ((X_X12_nextWord_10 mTaped mRa mSt mTape).2.2)) = false) => ?_) (fun (c3 : (f_X12_isKey ((X_X12_nextWord_10 mTaped mRa mSt mTape).2.2)) = true) => ?_)
      · refine lv_aload_n S.1 S.2.1 dX12_nextWord_138 rfl (lv_at hl 0 rfl) ?_
        refine g_get (v := .int ((X_X12_nextWord_10 mTaped mRa mSt mTape).2.1)) S hK hP (hB0 0 _ rfl) rfl inX12 14 (by decide) qw1388 rfl dX12_nextWord_139 ?_
        refine lv_aload_n S.1 S.2.1 dX12_nextWord_142 rfl (lv_at hl 0 rfl) ?_
        refine g_get (v := .int mSt) S hK hP (hB0 0 _ rfl) rfl inX12 15 (by decide) qw1389 rfl dX12_nextWord_143 ?_
        refine lv_isub S.1 S.2.1 dX12_nextWord_146 ?_
        refine lv_bipush (v := 7) S.1 S.2.1 dX12_nextWord_147 (by decide) ?_
        refine lv_icmp_ge (tgt := 156) S.1 S.2.1 dX12_nextWord_149 (by decide) (fun (c4 : 7 ≤ ((X_X12_nextWord_10 mTaped mRa mSt mTape).2.1 - mSt)) => ?_) (fun (c4 : ¬ 7 ≤ ((X_X12_nextWord_10 mTaped mRa mSt mTape).2.1 - mSt)) => ?_)
        · refine lv_iconst (v := 5) S.1 S.2.1 dX12_nextWord_156 (by decide) ?_
          have hJ : (J_X12_nextWord_121 mTaped mRa mSt mTape) = 5 := (if_neg c1).trans ((cd_f c3).trans (if_pos c4))
          have qj := jn121
          rw [hJ] at qj
          exact qj _ _ _ _ hP hD hS hF hB0 (lv_sub hl [0] rfl)
        · refine lv_iconst (v := 1) S.1 S.2.1 dX12_nextWord_152 (by decide) ?_
          refine lv_goto (tgt := 157) S.1 S.2.1 dX12_nextWord_153 (by decide) ?_
          have hJ : (J_X12_nextWord_121 mTaped mRa mSt mTape) = 1 := (if_neg c1).trans ((cd_f c3).trans (if_neg c4))
          have qj := jn121
          rw [hJ] at qj
          exact qj _ _ _ _ hP hD hS hF hB0 (lv_sub hl [0] rfl)
      · refine lv_iconst (v := 2) S.1 S.2.1 dX12_nextWord_134 (by decide) ?_
        refine lv_goto (tgt := 157) S.1 S.2.1 dX12_nextWord_135 (by decide) ?_
        have hJ : (J_X12_nextWord_121 mTaped mRa mSt mTape) = 2 := (if_neg c1).trans (cd_t c3)
        have qj := jn121
        rw [hJ] at qj
        exact qj _ _ _ _ hP hD hS hF hB0 (lv_sub hl [0] rfl)
  have lw10 : ∀ (n : Nat) (sw10 : Int32 × Int32 × Int64), (rdn n sw10.2.1 mTaped) → (X_X12_nextWord_10 mTaped mRa mSt mTape) = whl_ (T_X12_nextWord_10 mTaped mSt mTape) n sw10 → ∀ (wl : va_W) (H : Heap) (locs : List Loc) (ls : Array Slot), va_P D vwCl wl H → va_D A wl → va_S A s.heap H locs → Same w wl k 14 → Blk wl k (cM D α k mTaped mErr mPpl mBts mUs sw10.2.1 mSt mKi sw10.2.2 mVal sw10.1 mFin mNp mNb mOuts mWant mFnd mTape mNum mNam mFst mBnm mW mUn mSl mKp mnNum mnNam mnBo mnBn) → lv_has ls 3 [(0, .ref (α (k)))] → W pg l en ({ frames := 1, cells := 0, slots := 0, locals := 22 } : Room) s mi ar below me co H locs 0 0 (MQ below (gQ D A none (fun w1 => Blk w1 k (cM D α k mTaped mErr mPpl mBts mUs ((f_X12_nextWord mTaped mRa mSt mTape).2.2.1) mSt ((f_X12_nextWord mTaped mRa mSt mTape).1) ((f_X12_nextWord mTaped mRa mSt mTape).2.2.2) mVal ((f_X12_nextWord mTaped mRa mSt mTape).2.1) mFin mNp mNb mOuts mWant mFnd mTape mNum mNam mFst mBnm mW mUn mSl mKp mnNum mnNam mnBo mnBn) ∧ Same w w1 k 14 ∧ (rd_ (f_X12_nextWord mTaped mRa mSt mTape).2.2.1 mTaped))) ar s 0 0 A) (F0 mi 10 ls []) := by
    intro n
    induction n with
    | zero => intro sw10 hi; exact absurd hi (rdn_0)
    | succ n ih =>
      intro sw10 hi hx wl H locs ls hP hD hS hF hB0 hl
      refine lv_aload_n S.1 S.2.1 dX12_nextWord_10 rfl (lv_at hl 0 rfl) ?_
      refine lv_bipush (v := 97) S.1 S.2.1 dX12_nextWord_11 (by decide) ?_
      refine lv_bipush (v := 122) S.1 S.2.1 dX12_nextWord_13 (by decide) ?_
      refine g_aftR0 (st1 := [.int (b2i (f_X12_isByte mTaped sw10.2.1 mTape 97 122))]) (g_V (As := [.int 97, .int 122]) (rest := []) S mi_X12_isByte qw1492 (c_X12_isByte l D A wl α (k) mTaped mErr mPpl mBts mUs sw10.2.1 mSt mKi sw10.2.2 mVal sw10.1 mFin mNp mNb mOuts mWant mFnd mTape mNum mNam mFst mBnm mW mUn mSl mKp mnNum mnNam mnBo mnBn 97 122 hB0 (by exact rdn_rd hi)) hK hP hD hE hS (hB0 0 _ rfl) rfl rfl rfl hl.1 (Nat.le_of_ble_eq_true rfl) rfl rfl ⟨(Nat.le_of_ble_eq_true rfl), (Nat.le_of_ble_eq_true rfl)⟩ ⟨(Nat.le_of_ble_eq_true rfl), (Nat.le_of_ble_eq_true rfl)⟩ dX12_nextWord_15) hS rfl (fun locs hS => ?_)
      refine g_bifeq (b := (f_X12_isByte mTaped sw10.2.1 mTape 97 122)) (tgt := 109) S dX12_nextWord_18 (by decide) (fun (c5 : (f_X12_isByte mTaped sw10.2.1 mTape 97 122) = false) => ?_) (fun (c5 : (f_X12_isByte mTaped sw10.2.1 mTape 97 122) = true) => ?_)
      · skip
        have hT : (T_X12_nextWord_10 mTaped mSt mTape) sw10 = .inr (sw10.1, sw10.2.1, sw10.2.2) := cd_f c5
        have hX := hx.trans (whl_o hT)
        have qj := jw10
        rw [hX] at qj
        exact qj (rdn_rd hi) _ _ _ _ hP hD hS hF hB0 (lv_sub hl [0] rfl)
      · have hib := isByte_lt c5
        refine lv_aload_n S.1 S.2.1 dX12_nextWord_21 rfl (lv_at hl 0 rfl) ?_
        refine g_get (v := .int sw10.2.1) S hK hP (hB0 0 _ rfl) rfl inX12 14 (by decide) qw1388 rfl dX12_nextWord_22 ?_
        refine lv_aload_n S.1 S.2.1 dX12_nextWord_25 rfl (lv_at hl 0 rfl) ?_
        refine g_get (v := .int mSt) S hK hP (hB0 0 _ rfl) rfl inX12 15 (by decide) qw1389 rfl dX12_nextWord_26 ?_
        refine lv_isub S.1 S.2.1 dX12_nextWord_29 ?_
        refine lv_istore_n (lv' := [(1, .int (sw10.2.1 - mSt)), (0, .ref (α (k)))]) S.1 S.2.1 dX12_nextWord_30 rfl hl (by decide) rfl (fun ls hl => ?_)
        refine lv_aload_n S.1 S.2.1 dX12_nextWord_31 rfl (lv_at hl 1 rfl) ?_
        refine g_get (v := .ref (α (k + 1))) S hK hP (hB0 0 _ rfl) rfl inX12 0 (by decide) qw1374 rfl dX12_nextWord_32 ?_
        refine lv_aload_n S.1 S.2.1 dX12_nextWord_35 rfl (lv_at hl 1 rfl) ?_
        refine g_get (v := .int sw10.2.1) S hK hP (hB0 0 _ rfl) rfl inX12 14 (by decide) qw1388 rfl dX12_nextWord_36 ?_
        refine g_bald S hK hP (hB0 1 _ rfl) (rd_in (rdn_rd hi) (by assumption)) dX12_nextWord_39 ?_
        refine lv_bipush (v := 96) S.1 S.2.1 dX12_nextWord_40 (by decide) ?_
        refine lv_isub S.1 S.2.1 dX12_nextWord_42 ?_
        refine lv_istore_n (lv' := [(2, .int ((mTape sw10.2.1.toNatClampNeg) - 96)), (1, .int (sw10.2.1 - mSt)), (0, .ref (α (k)))]) S.1 S.2.1 dX12_nextWord_43 rfl hl (by decide) rfl (fun ls hl => ?_)
        refine lv_aload_n S.1 S.2.1 dX12_nextWord_44 rfl (lv_at hl 2 rfl) ?_
        refine lv_dup S.1 S.2.1 dX12_nextWord_45 rfl ?_
        refine g_get (v := .int sw10.1) S hK hP (hB0 0 _ rfl) rfl inX12 19 (by decide) qw1393 rfl dX12_nextWord_46 ?_
        refine lv_iload_n S.1 S.2.1 dX12_nextWord_49 rfl (lv_at hl 1 rfl) ?_
        refine lv_bipush (v := 6) S.1 S.2.1 dX12_nextWord_50 (by decide) ?_
        have jn52 : ∀ (wl : va_W) (H : Heap) (locs : List Loc) (ls : Array Slot), va_P D vwCl wl H → va_D A wl → va_S A s.heap H locs → Same w wl k 14 → Blk wl k (cM D α k mTaped mErr mPpl mBts mUs sw10.2.1 mSt mKi sw10.2.2 mVal sw10.1 mFin mNp mNb mOuts mWant mFnd mTape mNum mNam mFst mBnm mW mUn mSl mKp mnNum mnNam mnBo mnBn) → lv_has ls 3 [(2, .int ((mTape sw10.2.1.toNatClampNeg) - 96)), (1, .int (sw10.2.1 - mSt)), (0, .ref (α (k)))] → W pg l en ({ frames := 1, cells := 0, slots := 0, locals := 22 } : Room) s mi ar below me co H locs 0 0 (MQ below (gQ D A none (fun w1 => Blk w1 k (cM D α k mTaped mErr mPpl mBts mUs ((f_X12_nextWord mTaped mRa mSt mTape).2.2.1) mSt ((f_X12_nextWord mTaped mRa mSt mTape).1) ((f_X12_nextWord mTaped mRa mSt mTape).2.2.2) mVal ((f_X12_nextWord mTaped mRa mSt mTape).2.1) mFin mNp mNb mOuts mWant mFnd mTape mNum mNam mFst mBnm mW mUn mSl mKp mnNum mnNam mnBo mnBn) ∧ Same w w1 k 14 ∧ (rd_ (f_X12_nextWord mTaped mRa mSt mTape).2.2.1 mTaped))) ar s 0 0 A) (F0 mi 67 ls [.int (J_X12_nextWord_52 mSt mTape sw10), .int sw10.1, .ref (α (k))]) := by
          intro wl H locs ls hP hD hS hF hB0 hl
          refine lv_ior S.1 S.2.1 dX12_nextWord_67 ?_
          refine g_put S hK hP hD hS (hB0 0 _ rfl) rfl inX12 tyX12_ok nmX12 19 (by decide) qw1393 rfl rfl rfl (Nat.le_of_ble_eq_true rfl) dX12_nextWord_68 (fun w4 H locs hw hP hD hS => ?_)
          have hF := Same.set hF 0 hw (by decide)
          have hB0 : Blk w4 k (cM D α k mTaped mErr mPpl mBts mUs sw10.2.1 mSt mKi sw10.2.2 mVal (sw10.1 ||| (J_X12_nextWord_52 mSt mTape sw10)) mFin mNp mNb mOuts mWant mFnd mTape mNum mNam mFst mBnm mW mUn mSl mKp mnNum mnNam mnBo mnBn) := hB0.set 0 hw (Nat.le_of_ble_eq_true rfl) rfl
          refine lv_aload_n S.1 S.2.1 dX12_nextWord_71 rfl (lv_at hl 2 rfl) ?_
          refine lv_iload_n S.1 S.2.1 dX12_nextWord_72 rfl (lv_at hl 1 rfl) ?_
          refine lv_bipush (v := 8) S.1 S.2.1 dX12_nextWord_73 (by decide) ?_
          have jn75 : ∀ (wl : va_W) (H : Heap) (locs : List Loc) (ls : Array Slot), va_P D vwCl wl H → va_D A wl → va_S A s.heap H locs → Same w wl k 14 → Blk wl k (cM D α k mTaped mErr mPpl mBts mUs sw10.2.1 mSt mKi sw10.2.2 mVal (sw10.1 ||| (J_X12_nextWord_52 mSt mTape sw10)) mFin mNp mNb mOuts mWant mFnd mTape mNum mNam mFst mBnm mW mUn mSl mKp mnNum mnNam mnBo mnBn) → lv_has ls 3 [(2, .int ((mTape sw10.2.1.toNatClampNeg) - 96)), (1, .int (sw10.2.1 - mSt)), (0, .ref (α (k)))] → W pg l en ({ frames := 1, cells := 0, slots := 0, locals := 22 } : Room) s mi ar below me co H locs 0 0 (MQ below (gQ D A none (fun w1 => Blk w1 k (cM D α k mTaped mErr mPpl mBts mUs ((f_X12_nextWord mTaped mRa mSt mTape).2.2.1) mSt ((f_X12_nextWord mTaped mRa mSt mTape).1) ((f_X12_nextWord mTaped mRa mSt mTape).2.2.2) mVal ((f_X12_nextWord mTaped mRa mSt mTape).2.1) mFin mNp mNb mOuts mWant mFnd mTape mNum mNam mFst mBnm mW mUn mSl mKp mnNum mnNam mnBo mnBn) ∧ Same w w1 k 14 ∧ (rd_ (f_X12_nextWord mTaped mRa mSt mTape).2.2.1 mTaped))) ar s 0 0 A) (F0 mi 93 ls [.long (J_X12_nextWord_75 mSt mTape sw10), .ref (α (k))]) := by
            intro wl H locs ls hP hD hS hF hB0 hl
            refine g_put S hK hP hD hS (hB0 0 _ rfl) rfl inX12 tyX12_ok nmX12 17 (by decide) qw1391 rfl rfl rfl (Nat.le_of_ble_eq_true rfl) dX12_nextWord_93 (fun w5 H locs hw hP hD hS => ?_)
            have hF := Same.set hF 0 hw (by decide)
            have hB0 : Blk w5 k (cM D α k mTaped mErr mPpl mBts mUs sw10.2.1 mSt mKi (J_X12_nextWord_75 mSt mTape sw10) mVal (sw10.1 ||| (J_X12_nextWord_52 mSt mTape sw10)) mFin mNp mNb mOuts mWant mFnd mTape mNum mNam mFst mBnm mW mUn mSl mKp mnNum mnNam mnBo mnBn) := hB0.set 0 hw (Nat.le_of_ble_eq_true rfl) rfl
            refine lv_aload_n S.1 S.2.1 dX12_nextWord_96 rfl (lv_at hl 2 rfl) ?_
            refine lv_dup S.1 S.2.1 dX12_nextWord_97 rfl ?_
            refine g_get (v := .int sw10.2.1) S hK hP (hB0 0 _ rfl) rfl inX12 14 (by decide) qw1388 rfl dX12_nextWord_98 ?_
            refine lv_iconst (v := 1) S.1 S.2.1 dX12_nextWord_101 (by decide) ?_
            refine lv_iadd S.1 S.2.1 dX12_nextWord_102 ?_
            refine g_put S hK hP hD hS (hB0 0 _ rfl) rfl inX12 tyX12_ok nmX12 14 (by decide) qw1388 rfl rfl rfl (Nat.le_of_ble_eq_true rfl) dX12_nextWord_103 (fun w6 H locs hw hP hD hS => ?_)
            have hF := Same.set hF 0 hw (by decide)
            have hB0 : Blk w6 k (cM D α k mTaped mErr mPpl mBts mUs (sw10.2.1 + 1) mSt mKi (J_X12_nextWord_75 mSt mTape sw10) mVal (sw10.1 ||| (J_X12_nextWord_52 mSt mTape sw10)) mFin mNp mNb mOuts mWant mFnd mTape mNum mNam mFst mBnm mW mUn mSl mKp mnNum mnNam mnBo mnBn) := hB0.set 0 hw (Nat.le_of_ble_eq_true rfl) rfl
            refine lv_goto (tgt := 10) S.1 S.2.1 dX12_nextWord_106 (by decide) ?_
            have hT : (T_X12_nextWord_10 mTaped mSt mTape) sw10 = .inl ((sw10.1 ||| (J_X12_nextWord_52 mSt mTape sw10)), (sw10.2.1 + 1), (J_X12_nextWord_75 mSt mTape sw10)) := cd_t c5
            exact ih _ (rdn_s hi (by assumption)) (hx.trans (whl_i hT)) _ _ _ _ hP hD hS hF hB0 (lv_sub hl [2] rfl)
          refine lv_icmp_ge (tgt := 92) S.1 S.2.1 dX12_nextWord_75 (by decide) (fun (c7 : 8 ≤ (sw10.2.1 - mSt)) => ?_) (fun (c7 : ¬ 8 ≤ (sw10.2.1 - mSt)) => ?_)
          · refine lv_lconst (v := 0) S.1 S.2.1 dX12_nextWord_92 (by decide) ?_
            have hJ : (J_X12_nextWord_75 mSt mTape sw10) = 0 := if_pos c7
            have qj := jn75
            rw [hJ] at qj
            exact qj _ _ _ _ hP hD hS hF hB0 (lv_sub hl [0, 1, 2] rfl)
          · refine lv_ldc2 (v := 32) S.1 S.2.1 S.2.2.2.1 (S.2.2.2.2 _ qw1500) dX12_nextWord_78 ?_
            refine lv_aload_n S.1 S.2.1 dX12_nextWord_81 rfl (lv_at hl 2 rfl) ?_
            refine g_get (v := .long sw10.2.2) S hK hP (hB0 0 _ rfl) rfl inX12 17 (by decide) qw1391 rfl dX12_nextWord_82 ?_
            refine lv_lmul S.1 S.2.1 dX12_nextWord_85 ?_
            refine lv_iload_n S.1 S.2.1 dX12_nextWord_86 rfl (lv_at hl 0 rfl) ?_
            refine lv_i2l (v := ((mTape sw10.2.1.toNatClampNeg) - 96).toInt64) S.1 S.2.1 dX12_nextWord_87 rfl ?_
            refine lv_ladd S.1 S.2.1 dX12_nextWord_88 ?_
            refine lv_goto (tgt := 93) S.1 S.2.1 dX12_nextWord_89 (by decide) ?_
            have hJ : (J_X12_nextWord_75 mSt mTape sw10) = ((32 * sw10.2.2) + ((mTape sw10.2.1.toNatClampNeg) - 96).toInt64) := if_neg c7
            have qj := jn75
            rw [hJ] at qj
            exact qj _ _ _ _ hP hD hS hF hB0 (lv_sub hl [0, 1, 2] rfl)
        refine lv_icmp_ge (tgt := 66) S.1 S.2.1 dX12_nextWord_52 (by decide) (fun (c6 : 6 ≤ (sw10.2.1 - mSt)) => ?_) (fun (c6 : ¬ 6 ≤ (sw10.2.1 - mSt)) => ?_)
        · refine lv_iconst (v := 0) S.1 S.2.1 dX12_nextWord_66 (by decide) ?_
          have hJ : (J_X12_nextWord_52 mSt mTape sw10) = 0 := if_pos c6
          have qj := jn52
          rw [hJ] at qj
          exact qj _ _ _ _ hP hD hS hF hB0 (lv_sub hl [0, 1, 2] rfl)
        · refine lv_iload_n S.1 S.2.1 dX12_nextWord_55 rfl (lv_at hl 0 rfl) ?_
          refine lv_bipush (v := 25) S.1 S.2.1 dX12_nextWord_56 (by decide) ?_
          refine lv_iconst (v := 5) S.1 S.2.1 dX12_nextWord_58 (by decide) ?_
          refine lv_iload_n S.1 S.2.1 dX12_nextWord_59 rfl (lv_at hl 1 rfl) ?_
          refine lv_imul S.1 S.2.1 dX12_nextWord_60 ?_
          refine lv_isub S.1 S.2.1 dX12_nextWord_61 ?_
          refine lv_ishl S.1 S.2.1 dX12_nextWord_62 ?_
          refine lv_goto (tgt := 67) S.1 S.2.1 dX12_nextWord_63 (by decide) ?_
          have hJ : (J_X12_nextWord_52 mSt mTape sw10) = (((mTape sw10.2.1.toNatClampNeg) - 96) <<< ((25 - (5 * (sw10.2.1 - mSt))) &&& 31)) := if_neg c6
          have qj := jn52
          rw [hJ] at qj
          exact qj _ _ _ _ hP hD hS hF hB0 (lv_sub hl [0, 1, 2] rfl)
  exact lw10 801 (0, mRa, 0) (rdn_of (by assumption)) rfl _ _ _ _ hP hD hS hF hB0 (lv_sub hl [0] rfl)
def J_X12_nextInt_27 (mSt : Int32) (mTape : Nat → Int32) (sw5 : Int32 × Int32) : Int32 := (if 3 ≤ (sw5.1 - mSt) then sw5.2 else (((10 * sw5.2) + (mTape sw5.1.toNatClampNeg)) - 48))
def T_X12_nextInt_5 (mTaped : Int32) (mSt : Int32) (mTape : Nat → Int32) (sw5 : Int32 × Int32) : Sum (Int32 × Int32) (Int32 × Int32) := (bif (f_X12_isByte mTaped sw5.1 mTape 48 57) then (.inl ((sw5.1 + 1), (J_X12_nextInt_27 mSt mTape sw5))) else (.inr (sw5.1, sw5.2)))
def X_X12_nextInt_5 (mTaped : Int32) (mRa : Int32) (mSt : Int32) (mTape : Nat → Int32) : Int32 × Int32 := whl_ ((T_X12_nextInt_5 mTaped mSt mTape)) 801 (mRa, 0)
def J_X12_nextInt_84 (mTaped : Int32) (mRa : Int32) (mSt : Int32) (mTape : Nat → Int32) : Int32 := (if 4 ≤ ((X_X12_nextInt_5 mTaped mRa mSt mTape).1 - mSt) then 5 else 3)
def f_X12_nextInt (mTaped : Int32) (mRa : Int32) (mSt : Int32) (mTape : Nat → Int32) : Int32 × Int32 × Int32 := ((J_X12_nextInt_84 mTaped mRa mSt mTape), (X_X12_nextInt_5 mTaped mRa mSt mTape).1, (X_X12_nextInt_5 mTaped mRa mSt mTape).2)
set_option maxHeartbeats 4000000 in
set_option maxRecDepth 100000 in
theorem c_X12_nextInt (l : Launch) (D : va_G) (A : Nat → Prop) (w : va_W) (α : Nat → Nat) (k : Nat) (mTaped : Int32) (mErr : Int32) (mPpl : Int32) (mBts : Int32) (mUs : Int32) (mRa : Int32) (mSt : Int32) (mKi : Int32) (mWd : Int64) (mVal : Int32) (mLet : Int32) (mFin : Int32) (mNp : Int32) (mNb : Int32) (mOuts : Int32) (mWant : Int32) (mFnd : Int32) (mTape : Nat → Int32) (mNum : Nat → Int32) (mNam : Nat → Int32) (mFst : Nat → Int32) (mBnm : Nat → Int32) (mW : Nat → Int32) (mUn : Nat → Int32) (mSl : Nat → Int32) (mKp : Nat → Int32) (mnNum : Nat → Int32) (mnNam : Nat → Int32) (mnBo : Nat → Int32) (mnBn : Nat → Int32) (hB0 : Blk w k (cM D α k mTaped mErr mPpl mBts mUs mRa mSt mKi mWd mVal mLet mFin mNp mNb mOuts mWant mFnd mTape mNum mNam mFst mBnm mW mUn mSl mKp mnNum mnNam mnBo mnBn)) (hy0 : rd_ mRa mTaped) : Met l yX12_nextInt (ws_ yX12_nextInt cX12_nextInt 1 none) ({ frames := 1, cells := 0, slots := 0, locals := 22 }) (gPre D A [.ref (α (k))] w) (gQ D A none (fun w1 => Blk w1 k (cM D α k mTaped mErr mPpl mBts mUs ((f_X12_nextInt mTaped mRa mSt mTape).2.1) mSt ((f_X12_nextInt mTaped mRa mSt mTape).1) mWd ((f_X12_nextInt mTaped mRa mSt mTape).2.2) mLet mFin mNp mNb mOuts mWant mFnd mTape mNum mNam mFst mBnm mW mUn mSl mKp mnNum mnNam mnBo mnBn) ∧ Same w w1 k 14 ∧ (rd_ (f_X12_nextInt mTaped mRa mSt mTape).2.1 mTaped))) 0 0 A := by
  refine g_met [(0, .ref (α (k)))] (plainFor_of_name (by decide)) (Nat.le_of_ble_eq_true rfl) rfl (fun pg en s mi ar below me co ls S hK hP hD hE hS hr hlk hnm hl => ?_)
  have hF : Same w w k 14 := Same.rf
  refine lv_aload_n S.1 S.2.1 dX12_nextInt_0 rfl (lv_at hl 0 rfl) ?_
  refine lv_iconst (v := 0) S.1 S.2.1 dX12_nextInt_1 (by decide) ?_
  refine g_put S hK hP hD hS (hB0 0 _ rfl) rfl inX12 tyX12_ok nmX12 18 (by decide) qw1392 rfl rfl rfl (Nat.le_of_ble_eq_true rfl) dX12_nextInt_2 (fun w1 H locs hw hP hD hS => ?_)
  have hF := Same.set hF 0 hw (by decide)
  have hB0 : Blk w1 k (cM D α k mTaped mErr mPpl mBts mUs mRa mSt mKi mWd 0 mLet mFin mNp mNb mOuts mWant mFnd mTape mNum mNam mFst mBnm mW mUn mSl mKp mnNum mnNam mnBo mnBn) := hB0.set 0 hw (Nat.le_of_ble_eq_true rfl) rfl
  have jw5 : (rd_ ((X_X12_nextInt_5 mTaped mRa mSt mTape).1) mTaped) → ∀ (wl : va_W) (H : Heap) (locs : List Loc) (ls : Array Slot), va_P D vwCl wl H → va_D A wl → va_S A s.heap H locs → Same w wl k 14 → Blk wl k (cM D α k mTaped mErr mPpl mBts mUs ((X_X12_nextInt_5 mTaped mRa mSt mTape).1) mSt mKi mWd ((X_X12_nextInt_5 mTaped mRa mSt mTape).2) mLet mFin mNp mNb mOuts mWant mFnd mTape mNum mNam mFst mBnm mW mUn mSl mKp mnNum mnNam mnBo mnBn) → lv_has ls 1 [(0, .ref (α (k)))] → W pg l en ({ frames := 1, cells := 0, slots := 0, locals := 22 } : Room) s mi ar below me co H locs 0 0 (MQ below (gQ D A none (fun w1 => Blk w1 k (cM D α k mTaped mErr mPpl mBts mUs ((f_X12_nextInt mTaped mRa mSt mTape).2.1) mSt ((f_X12_nextInt mTaped mRa mSt mTape).1) mWd ((f_X12_nextInt mTaped mRa mSt mTape).2.2) mLet mFin mNp mNb mOuts mWant mFnd mTape mNum mNam mFst mBnm mW mUn mSl mKp mnNum mnNam mnBo mnBn) ∧ Same w w1 k 14 ∧ (rd_ (f_X12_nextInt mTaped mRa mSt mTape).2.1 mTaped))) ar s 0 0 A) (F0 mi 73 ls []) := by
    intro hpo wl H locs ls hP hD hS hF hB0 hl
    refine lv_aload_n S.1 S.2.1 dX12_nextInt_73 rfl (lv_at hl 0 rfl) ?_
    refine lv_aload_n S.1 S.2.1 dX12_nextInt_74 rfl (lv_at hl 0 rfl) ?_
    refine g_get (v := .int ((X_X12_nextInt_5 mTaped mRa mSt mTape).1)) S hK hP (hB0 0 _ rfl) rfl inX12 14 (by decide) qw1388 rfl dX12_nextInt_75 ?_
    refine lv_aload_n S.1 S.2.1 dX12_nextInt_78 rfl (lv_at hl 0 rfl) ?_
    refine g_get (v := .int mSt) S hK hP (hB0 0 _ rfl) rfl inX12 15 (by decide) qw1389 rfl dX12_nextInt_79 ?_
    refine lv_isub S.1 S.2.1 dX12_nextInt_82 ?_
    refine lv_iconst (v := 4) S.1 S.2.1 dX12_nextInt_83 (by decide) ?_
    have jn84 : ∀ (wl : va_W) (H : Heap) (locs : List Loc) (ls : Array Slot), va_P D vwCl wl H → va_D A wl → va_S A s.heap H locs → Same w wl k 14 → Blk wl k (cM D α k mTaped mErr mPpl mBts mUs ((X_X12_nextInt_5 mTaped mRa mSt mTape).1) mSt mKi mWd ((X_X12_nextInt_5 mTaped mRa mSt mTape).2) mLet mFin mNp mNb mOuts mWant mFnd mTape mNum mNam mFst mBnm mW mUn mSl mKp mnNum mnNam mnBo mnBn) → lv_has ls 1 [(0, .ref (α (k)))] → W pg l en ({ frames := 1, cells := 0, slots := 0, locals := 22 } : Room) s mi ar below me co H locs 0 0 (MQ below (gQ D A none (fun w1 => Blk w1 k (cM D α k mTaped mErr mPpl mBts mUs ((f_X12_nextInt mTaped mRa mSt mTape).2.1) mSt ((f_X12_nextInt mTaped mRa mSt mTape).1) mWd ((f_X12_nextInt mTaped mRa mSt mTape).2.2) mLet mFin mNp mNb mOuts mWant mFnd mTape mNum mNam mFst mBnm mW mUn mSl mKp mnNum mnNam mnBo mnBn) ∧ Same w w1 k 14 ∧ (rd_ (f_X12_nextInt mTaped mRa mSt mTape).2.1 mTaped))) ar s 0 0 A) (F0 mi 92 ls [.int (J_X12_nextInt_84 mTaped mRa mSt mTape), .ref (α (k))]) := by
      intro wl H locs ls hP hD hS hF hB0 hl
      refine g_put S hK hP hD hS (hB0 0 _ rfl) rfl inX12 tyX12_ok nmX12 16 (by decide) qw1390 rfl rfl rfl (Nat.le_of_ble_eq_true rfl) dX12_nextInt_92 (fun w2 H locs hw hP hD hS => ?_)
      have hF := Same.set hF 0 hw (by decide)
      have hB0 : Blk w2 k (cM D α k mTaped mErr mPpl mBts mUs ((X_X12_nextInt_5 mTaped mRa mSt mTape).1) mSt (J_X12_nextInt_84 mTaped mRa mSt mTape) mWd ((X_X12_nextInt_5 mTaped mRa mSt mTape).2) mLet mFin mNp mNb mOuts mWant mFnd mTape mNum mNam mFst mBnm mW mUn mSl mKp mnNum mnNam mnBo mnBn) := hB0.set 0 hw (Nat.le_of_ble_eq_true rfl) rfl
      have hf : (f_X12_nextInt mTaped mRa mSt mTape) = ((J_X12_nextInt_84 mTaped mRa mSt mTape), (X_X12_nextInt_5 mTaped mRa mSt mTape).1, (X_X12_nextInt_5 mTaped mRa mSt mTape).2) := rfl
      exact g_vret S hr hlk hP hD hS (rfl) (⟨by rw [hf]; exact hB0, hF, by rw [hf]; exact hpo⟩) dX12_nextInt_95
    refine lv_icmp_ge (tgt := 91) S.1 S.2.1 dX12_nextInt_84 (by decide) (fun (c1 : 4 ≤ ((X_X12_nextInt_5 mTaped mRa mSt mTape).1 - mSt)) => ?_) (fun (c1 : ¬ 4 ≤ ((X_X12_nextInt_5 mTaped mRa mSt mTape).1 - mSt)) => ?_)
    · refine lv_iconst (v := 5) S.1 S.2.1 dX12_nextInt_91 (by decide) ?_
      have hJ : (J_X12_nextInt_84 mTaped mRa mSt mTape) = 5 := if_pos c1
      have qj := jn84
      rw [hJ] at qj
      exact qj _ _ _ _ hP hD hS hF hB0 (lv_sub hl [0] rfl)
    · refine lv_iconst (v := 3) S.1 S.2.1 dX12_nextInt_87 (by decide) ?_
      refine lv_goto (tgt := 92) S.1 S.2.1 dX12_nextInt_88 (by decide) ?_
      have hJ : (J_X12_nextInt_84 mTaped mRa mSt mTape) = 3 := if_neg c1
      have qj := jn84
      rw [hJ] at qj
      exact qj _ _ _ _ hP hD hS hF hB0 (lv_sub hl [0] rfl)
  have lw5 : ∀ (n : Nat) (sw5 : Int32 × Int32), (rdn n sw5.1 mTaped) → (X_X12_nextInt_5 mTaped mRa mSt mTape) = whl_ (T_X12_nextInt_5 mTaped mSt mTape) n sw5 → ∀ (wl : va_W) (H : Heap) (locs : List Loc) (ls : Array Slot), va_P D vwCl wl H → va_D A wl → va_S A s.heap H locs → Same w wl k 14 → Blk wl k (cM D α k mTaped mErr mPpl mBts mUs sw5.1 mSt mKi mWd sw5.2 mLet mFin mNp mNb mOuts mWant mFnd mTape mNum mNam mFst mBnm mW mUn mSl mKp mnNum mnNam mnBo mnBn) → lv_has ls 1 [(0, .ref (α (k)))] → W pg l en ({ frames := 1, cells := 0, slots := 0, locals := 22 } : Room) s mi ar below me co H locs 0 0 (MQ below (gQ D A none (fun w1 => Blk w1 k (cM D α k mTaped mErr mPpl mBts mUs ((f_X12_nextInt mTaped mRa mSt mTape).2.1) mSt ((f_X12_nextInt mTaped mRa mSt mTape).1) mWd ((f_X12_nextInt mTaped mRa mSt mTape).2.2) mLet mFin mNp mNb mOuts mWant mFnd mTape mNum mNam mFst mBnm mW mUn mSl mKp mnNum mnNam mnBo mnBn) ∧ Same w w1 k 14 ∧ (rd_ (f_X12_nextInt mTaped mRa mSt mTape).2.1 mTaped))) ar s 0 0 A) (F0 mi 5 ls []) := by
    intro n
    induction n with
    | zero => intro sw5 hi; exact absurd hi (rdn_0)
    | succ n ih =>
      intro sw5 hi hx wl H locs ls hP hD hS hF hB0 hl
      refine lv_aload_n S.1 S.2.1 dX12_nextInt_5 rfl (lv_at hl 0 rfl) ?_
      refine lv_bipush (v := 48) S.1 S.2.1 dX12_nextInt_6 (by decide) ?_
      refine lv_bipush (v := 57) S.1 S.2.1 dX12_nextInt_8 (by decide) ?_
      refine g_aftR0 (st1 := [.int (b2i (f_X12_isByte mTaped sw5.1 mTape 48 57))]) (g_V (As := [.int 48, .int 57]) (rest := []) S mi_X12_isByte qw1492 (c_X12_isByte l D A wl α (k) mTaped mErr mPpl mBts mUs sw5.1 mSt mKi mWd sw5.2 mLet mFin mNp mNb mOuts mWant mFnd mTape mNum mNam mFst mBnm mW mUn mSl mKp mnNum mnNam mnBo mnBn 48 57 hB0 (by exact rdn_rd hi)) hK hP hD hE hS (hB0 0 _ rfl) rfl rfl rfl hl.1 (Nat.le_of_ble_eq_true rfl) rfl rfl ⟨(Nat.le_of_ble_eq_true rfl), (Nat.le_of_ble_eq_true rfl)⟩ ⟨(Nat.le_of_ble_eq_true rfl), (Nat.le_of_ble_eq_true rfl)⟩ dX12_nextInt_10) hS rfl (fun locs hS => ?_)
      refine g_bifeq (b := (f_X12_isByte mTaped sw5.1 mTape 48 57)) (tgt := 73) S dX12_nextInt_13 (by decide) (fun (c2 : (f_X12_isByte mTaped sw5.1 mTape 48 57) = false) => ?_) (fun (c2 : (f_X12_isByte mTaped sw5.1 mTape 48 57) = true) => ?_)
      · skip
        have hT : (T_X12_nextInt_5 mTaped mSt mTape) sw5 = .inr (sw5.1, sw5.2) := cd_f c2
        have hX := hx.trans (whl_o hT)
        have qj := jw5
        rw [hX] at qj
        exact qj (rdn_rd hi) _ _ _ _ hP hD hS hF hB0 (lv_sub hl [0] rfl)
      · have hib := isByte_lt c2
        refine lv_aload_n S.1 S.2.1 dX12_nextInt_16 rfl (lv_at hl 0 rfl) ?_
        refine lv_aload_n S.1 S.2.1 dX12_nextInt_17 rfl (lv_at hl 0 rfl) ?_
        refine g_get (v := .int sw5.1) S hK hP (hB0 0 _ rfl) rfl inX12 14 (by decide) qw1388 rfl dX12_nextInt_18 ?_
        refine lv_aload_n S.1 S.2.1 dX12_nextInt_21 rfl (lv_at hl 0 rfl) ?_
        refine g_get (v := .int mSt) S hK hP (hB0 0 _ rfl) rfl inX12 15 (by decide) qw1389 rfl dX12_nextInt_22 ?_
        refine lv_isub S.1 S.2.1 dX12_nextInt_25 ?_
        refine lv_iconst (v := 3) S.1 S.2.1 dX12_nextInt_26 (by decide) ?_
        have jn27 : ∀ (wl : va_W) (H : Heap) (locs : List Loc) (ls : Array Slot), va_P D vwCl wl H → va_D A wl → va_S A s.heap H locs → Same w wl k 14 → Blk wl k (cM D α k mTaped mErr mPpl mBts mUs sw5.1 mSt mKi mWd sw5.2 mLet mFin mNp mNb mOuts mWant mFnd mTape mNum mNam mFst mBnm mW mUn mSl mKp mnNum mnNam mnBo mnBn) → lv_has ls 1 [(0, .ref (α (k)))] → W pg l en ({ frames := 1, cells := 0, slots := 0, locals := 22 } : Room) s mi ar below me co H locs 0 0 (MQ below (gQ D A none (fun w1 => Blk w1 k (cM D α k mTaped mErr mPpl mBts mUs ((f_X12_nextInt mTaped mRa mSt mTape).2.1) mSt ((f_X12_nextInt mTaped mRa mSt mTape).1) mWd ((f_X12_nextInt mTaped mRa mSt mTape).2.2) mLet mFin mNp mNb mOuts mWant mFnd mTape mNum mNam mFst mBnm mW mUn mSl mKp mnNum mnNam mnBo mnBn) ∧ Same w w1 k 14 ∧ (rd_ (f_X12_nextInt mTaped mRa mSt mTape).2.1 mTaped))) ar s 0 0 A) (F0 mi 57 ls [.int (J_X12_nextInt_27 mSt mTape sw5), .ref (α (k))]) := by
          intro wl H locs ls hP hD hS hF hB0 hl
          refine g_put S hK hP hD hS (hB0 0 _ rfl) rfl inX12 tyX12_ok nmX12 18 (by decide) qw1392 rfl rfl rfl (Nat.le_of_ble_eq_true rfl) dX12_nextInt_57 (fun w3 H locs hw hP hD hS => ?_)
          have hF := Same.set hF 0 hw (by decide)
          have hB0 : Blk w3 k (cM D α k mTaped mErr mPpl mBts mUs sw5.1 mSt mKi mWd (J_X12_nextInt_27 mSt mTape sw5) mLet mFin mNp mNb mOuts mWant mFnd mTape mNum mNam mFst mBnm mW mUn mSl mKp mnNum mnNam mnBo mnBn) := hB0.set 0 hw (Nat.le_of_ble_eq_true rfl) rfl
          refine lv_aload_n S.1 S.2.1 dX12_nextInt_60 rfl (lv_at hl 0 rfl) ?_
          refine lv_dup S.1 S.2.1 dX12_nextInt_61 rfl ?_
          refine g_get (v := .int sw5.1) S hK hP (hB0 0 _ rfl) rfl inX12 14 (by decide) qw1388 rfl dX12_nextInt_62 ?_
          refine lv_iconst (v := 1) S.1 S.2.1 dX12_nextInt_65 (by decide) ?_
          refine lv_iadd S.1 S.2.1 dX12_nextInt_66 ?_
          refine g_put S hK hP hD hS (hB0 0 _ rfl) rfl inX12 tyX12_ok nmX12 14 (by decide) qw1388 rfl rfl rfl (Nat.le_of_ble_eq_true rfl) dX12_nextInt_67 (fun w4 H locs hw hP hD hS => ?_)
          have hF := Same.set hF 0 hw (by decide)
          have hB0 : Blk w4 k (cM D α k mTaped mErr mPpl mBts mUs (sw5.1 + 1) mSt mKi mWd (J_X12_nextInt_27 mSt mTape sw5) mLet mFin mNp mNb mOuts mWant mFnd mTape mNum mNam mFst mBnm mW mUn mSl mKp mnNum mnNam mnBo mnBn) := hB0.set 0 hw (Nat.le_of_ble_eq_true rfl) rfl
          refine lv_goto (tgt := 5) S.1 S.2.1 dX12_nextInt_70 (by decide) ?_
          have hT : (T_X12_nextInt_5 mTaped mSt mTape) sw5 = .inl ((sw5.1 + 1), (J_X12_nextInt_27 mSt mTape sw5)) := cd_t c2
          exact ih _ (rdn_s hi (by assumption)) (hx.trans (whl_i hT)) _ _ _ _ hP hD hS hF hB0 (lv_sub hl [0] rfl)
        refine lv_icmp_ge (tgt := 53) S.1 S.2.1 dX12_nextInt_27 (by decide) (fun (c3 : 3 ≤ (sw5.1 - mSt)) => ?_) (fun (c3 : ¬ 3 ≤ (sw5.1 - mSt)) => ?_)
        · refine lv_aload_n S.1 S.2.1 dX12_nextInt_53 rfl (lv_at hl 0 rfl) ?_
          refine g_get (v := .int sw5.2) S hK hP (hB0 0 _ rfl) rfl inX12 18 (by decide) qw1392 rfl dX12_nextInt_54 ?_
          have hJ : (J_X12_nextInt_27 mSt mTape sw5) = sw5.2 := if_pos c3
          have qj := jn27
          rw [hJ] at qj
          exact qj _ _ _ _ hP hD hS hF hB0 (lv_sub hl [0] rfl)
        · refine lv_bipush (v := 10) S.1 S.2.1 dX12_nextInt_30 (by decide) ?_
          refine lv_aload_n S.1 S.2.1 dX12_nextInt_32 rfl (lv_at hl 0 rfl) ?_
          refine g_get (v := .int sw5.2) S hK hP (hB0 0 _ rfl) rfl inX12 18 (by decide) qw1392 rfl dX12_nextInt_33 ?_
          refine lv_imul S.1 S.2.1 dX12_nextInt_36 ?_
          refine lv_aload_n S.1 S.2.1 dX12_nextInt_37 rfl (lv_at hl 0 rfl) ?_
          refine g_get (v := .ref (α (k + 1))) S hK hP (hB0 0 _ rfl) rfl inX12 0 (by decide) qw1374 rfl dX12_nextInt_38 ?_
          refine lv_aload_n S.1 S.2.1 dX12_nextInt_41 rfl (lv_at hl 0 rfl) ?_
          refine g_get (v := .int sw5.1) S hK hP (hB0 0 _ rfl) rfl inX12 14 (by decide) qw1388 rfl dX12_nextInt_42 ?_
          refine g_bald S hK hP (hB0 1 _ rfl) (rd_in (rdn_rd hi) (by assumption)) dX12_nextInt_45 ?_
          refine lv_iadd S.1 S.2.1 dX12_nextInt_46 ?_
          refine lv_bipush (v := 48) S.1 S.2.1 dX12_nextInt_47 (by decide) ?_
          refine lv_isub S.1 S.2.1 dX12_nextInt_49 ?_
          refine lv_goto (tgt := 57) S.1 S.2.1 dX12_nextInt_50 (by decide) ?_
          have hJ : (J_X12_nextInt_27 mSt mTape sw5) = (((10 * sw5.2) + (mTape sw5.1.toNatClampNeg)) - 48) := if_neg c3
          have qj := jn27
          rw [hJ] at qj
          exact qj _ _ _ _ hP hD hS hF hB0 (lv_sub hl [0] rfl)
  exact lw5 801 (mRa, 0) (rdn_of (by assumption)) rfl _ _ _ _ hP hD hS hF hB0 (lv_sub hl [0] rfl)
