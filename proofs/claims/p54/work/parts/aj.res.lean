/-! RESULTS as the law asks for them -/
theorem neg_nI {y : Nat} (hy : y < 2 ^ 20) : -nI (y + 1) = nI y ^^^ (-1) := by
  apply Int32.toBitVec_inj.mp
  rw [Int32.toBitVec_neg, Int32.toBitVec_xor]
  show -(BitVec.ofNat 32 (y + 1)) = BitVec.ofNat 32 y ^^^ BitVec.allOnes 32
  rw [BitVec.xor_allOnes]
  apply BitVec.eq_of_toNat_eq
  rw [BitVec.toNat_neg, BitVec.toNat_not, BitVec.toNat_ofNat, BitVec.toNat_ofNat]
  omega
/-- the lowest bit of a mask -/
theorem low_bit {p : Nat → Bool} {k : Nat} (hk : k < 20) (h1 : p k = true) (h2 : ∀ j, j < k → p j = false) : nI (mskB p 20) &&& -nI (mskB p 20) = nI (2 ^ k) := by
  have hb : ∀ j, (mskB p 20).testBit j = (decide (j < 20) && p j) := fun j => mskB_bit p 20 j
  have hlt := mskB_lt p 20
  have hx : mskB p 20 % 2 ^ (k + 1) = 2 ^ k := by
    apply Nat.eq_of_testBit_eq
    intro j
    rw [Nat.testBit_mod_two_pow, Nat.testBit_two_pow, hb]
    rcases Nat.lt_trichotomy j k with q | q | q
    · rw [h2 j q, decide_eq_false (show ¬ k = j by omega), Bool.and_false, Bool.and_false]
    · subst q
      rw [h1, decide_eq_true (show j < 20 from hk), decide_eq_true (show j < j + 1 by omega), decide_eq_true rfl]
      rfl
    · rw [decide_eq_false (show ¬ j < k + 1 by omega), decide_eq_false (show ¬ k = j by omega), Bool.false_and]
  have hd := Nat.div_add_mod (mskB p 20) (2 ^ (k + 1))
  rw [hx] at hd
  have hpos : 0 < 2 ^ k := Nat.pow_pos (by decide)
  have hpk : 2 ^ (k + 1) = 2 ^ k * 2 := Nat.pow_succ ..
  generalize hq : mskB p 20 / 2 ^ (k + 1) = q at hd
  obtain ⟨y, hy⟩ : ∃ y, mskB p 20 = y + 1 := ⟨mskB p 20 - 1, by omega⟩
  have hyq : y = 2 ^ (k + 1) * q + (2 ^ k - 1) := by omega
  have hyb : ∀ j, y.testBit j = if j < k + 1 then decide (j < k) else q.testBit (j - (k + 1)) := fun j => by
    rw [hyq, Nat.testBit_two_pow_mul_add q (show 2 ^ k - 1 < 2 ^ (k + 1) by omega) j, Nat.testBit_two_pow_sub_one]
  have hxb : ∀ j, (mskB p 20).testBit j = if j < k + 1 then decide (k = j) else q.testBit (j - (k + 1)) := fun j => by
    rw [← hd, Nat.testBit_two_pow_mul_add q (show 2 ^ k < 2 ^ (k + 1) by omega) j, Nat.testBit_two_pow]
  have hym : y = mskB (fun j => y.testBit j) 20 := by
    apply Nat.eq_of_testBit_eq
    intro j
    rw [mskB_bit]
    rcases Nat.lt_or_ge j 20 with z | z
    · rw [decide_eq_true z, Bool.true_and]
    · rw [decide_eq_false (Nat.not_lt.mpr z), Bool.false_and]
      exact Nat.testBit_lt_two_pow (Nat.lt_of_lt_of_le (by omega) (Nat.pow_le_pow_right (by decide) z))
  have e1 : -nI (mskB p 20) = nI (mskB (fun j => y.testBit j) 20) ^^^ (-1) := by
    rw [← hym, hy]
    exact neg_nI (by omega)
  rw [e1, andn_nI, ← msk_one hk]
  refine congrArg nI (mskB_cong (fun j hj => ?_))
  have hbj := hb j
  rw [decide_eq_true hj, Bool.true_and] at hbj
  rw [← hbj, hxb, hyb]
  rcases Nat.lt_trichotomy j k with z | z | z
  · rw [if_pos (by omega), if_pos (by omega), decide_eq_false (show ¬ k = j by omega), decide_eq_false (show ¬ j = k by omega)]
    rfl
  · subst z
    rw [if_pos (by omega), if_pos (by omega), decide_eq_true rfl, decide_eq_false (Nat.lt_irrefl j)]
    rfl
  · rw [if_neg (by omega), if_neg (by omega), decide_eq_false (show ¬ j = k by omega)]
    cases q.testBit (j - (k + 1)) <;> rfl
section DRES
variable {N P B Q : Nat} {v : VT}
theorem mx_nI {a b : Nat} (ha : a < 2 ^ 31) (hb : b < 2 ^ 31) : mx (nI a) (nI b) = nI (max a b) := nI_max ha hb
theorem cS_ra (hR : RA N P B Q v) (g : Nat → Bool) {o n : Nat} (ho : o < 20) (hn : n < 4) : decide (cS (v_plc v) (v_bsk v) g o = n) = (decide (v_plc v o = 2) && decide (v_bsk v o = nI n) && g o) := by
  obtain ⟨mTaped, mErr, mPpl, mBts, mUs, mTape, mNum, mNam, mFst, mBnm, mW, mUn, mSl, mKp, hR⟩ := hR
  exact cS_n hR.2.1 ho n hn (g o)
/-- the result by all laid sticks but those without -/
theorem due_res (hR : RA N P B Q v) (g : Nat → Bool) {wo : Int32} (hw : wo = nI (mskB (fun o => decide (v_plc v o = 2) && !g o) 20)) (need : Int32) : DUE v (RES (cS (v_plc v) (v_bsk v) g) need) need wo ∧ dT_ v wo = nI (smN (cS (v_plc v) (v_bsk v) g) 4) := by
  generalize hc : cS (v_plc v) (v_bsk v) g = c
  have hcS : ∀ o n, o < 20 → n < 4 → decide (c o = n) = (decide (v_plc v o = 2) && decide (v_bsk v o = nI n) && g o) := fun o n ho hn => by rw [← hc]; exact cS_ra hR g ho hn
  have how : ∀ b, b < 4 → ow_ v wo (nI b) = nI (mskB (fun o => decide (c o = b)) 20) := fun b hb => by
    unfold ow_
    rw [ow_n v hb, hw, andn_nI]
    refine congrArg nI (mskB_cong (fun o ho => ?_))
    rw [hcS o b ho hb]
    cases decide (v_plc v o = 2) <;> cases decide (v_bsk v o = nI b) <;> cases g o <;> rfl
  have hcb : ∀ b, b < 4 → cb_ v wo (nI b) = nI (cnt c b) := fun b hb => by
    unfold cb_
    rw [how b hb, bitc_msk _ (by decide)]
    rfl
  have hT : dT_ v wo = nI (smN c 4) := by
    show ((((nI 0 + cb_ v wo (nI 0)) + cb_ v wo (nI 1)) + cb_ v wo (nI 2)) + cb_ v wo (nI 3)) = nI (smN c 4)
    rw [hcb 0 (by decide), hcb 1 (by decide), hcb 2 (by decide), hcb 3 (by decide), nI_add, nI_add, nI_add, nI_add]
    rfl
  have hM : dM_ v wo = nI (mxN c 4) := by
    show mx (mx (mx (mx (nI 0) (cb_ v wo (nI 0))) (cb_ v wo (nI 1))) (cb_ v wo (nI 2))) (cb_ v wo (nI 3)) = nI (mxN c 4)
    have c0 := cnt_le c 0
    have c1 := cnt_le c 1
    have c2 := cnt_le c 2
    have c3 := cnt_le c 3
    rw [hcb 0 (by decide), hcb 1 (by decide), hcb 2 (by decide), hcb 3 (by decide), mx_nI (by omega) (by omega), mx_nI (by omega) (by omega), mx_nI (by omega) (by omega), mx_nI (by omega) (by omega)]
    rfl
  refine ⟨?_, hT⟩
  have hs4 : smN c 4 ≤ 80 := smN_le c 4
  unfold RES
  by_cases q1 : nI (smN c 4) < need
  · rw [if_pos q1]
    exact Or.inl ⟨rfl, Or.inl (by rw [hT]; exact q1)⟩
  rw [if_neg q1]
  by_cases q2 : smN c 4 = 0
  · rw [if_pos q2]
    exact Or.inl ⟨rfl, Or.inr (by rw [hT, q2]; rfl)⟩
  rw [if_neg q2]
  obtain ⟨k0, hk0, hk1, hk2⟩ := res_some q2
  have hyes := of_decide_eq_true (wh_yes 19 (fun o => decide (c o < 4 ∧ cnt c (c o) = mxN c 4)) ⟨k0, hk0, decide_eq_true ⟨hk1, hk2⟩⟩)
  have hno : ∀ j, j < wh_ (fun o => decide (c o < 4 ∧ cnt c (c o) = mxN c 4)) 19 → ¬ (c j < 4 ∧ cnt c (c j) = mxN c 4) := fun j hj => of_decide_eq_false (wh_no 19 (fun o => decide (c o < 4 ∧ cnt c (c o) = mxN c 4)) j hj)
  have hle : wh_ (fun o => decide (c o < 4 ∧ cnt c (c o) = mxN c 4)) 19 ≤ 19 := wh_le
  generalize wh_ (fun o => decide (c o < 4 ∧ cnt c (c o) = mxN c 4)) 19 = k at hyes hno hle
  have hlow : ∀ b i, b < 4 → i < 20 → c i = b → (∀ j, j < i → ¬ c j = b) → lo_ v wo (nI b) = nI (2 ^ i) := fun b i hb hi h1 h2 => by
    unfold lo_
    rw [how b hb]
    exact low_bit hi (decide_eq_true h1) (fun j hj => decide_eq_false (h2 j hj))
  have hfst : ∀ b, b < 4 → 0 < cnt c b → ∃ i, i < 20 ∧ c i = b ∧ ∀ j, j < i → ¬ c j = b := fun b hb hpos => by
    obtain ⟨i, hi, hi2⟩ := cntB_some hpos
    have hy := of_decide_eq_true (wh_yes 19 (fun o => decide (c o = b)) ⟨i, by omega, hi2⟩)
    have hl : wh_ (fun o => decide (c o = b)) 19 ≤ 19 := wh_le
    exact ⟨_, by omega, hy, fun j hj => of_decide_eq_false (wh_no 19 (fun o => decide (c o = b)) j hj)⟩
  have hmx : 0 < mxN c 4 := Nat.pos_of_ne_zero (fun z => q2 (sm_mx c 4 z))
  have hm20 := mxN_le c 4
  have hkl : lo_ v wo (nI (c k)) = nI (2 ^ k) := hlow _ k hyes.1 (by omega) rfl (fun j hj z => hno j hj ⟨by rw [z]; exact hyes.1, by rw [z]; exact hyes.2⟩)
  have hpw : ∀ i, i < 20 → 2 ^ i < 2 ^ 31 := fun i hi => Nat.pow_lt_pow_right (by decide) (by omega)
  rw [bk_in hyes.1]
  refine Or.inr ⟨?_, by rw [hT]; exact Int32.not_lt.mp q1, by rw [hM, hcb _ hyes.1, hyes.2], ?_⟩
  · have : c k = 0 ∨ c k = 1 ∨ c k = 2 ∨ c k = 3 := by omega
    rcases this with e | e | e | e <;> rw [e]
    · exact Or.inl rfl
    · exact Or.inr (Or.inl rfl)
    · exact Or.inr (Or.inr (Or.inl rfl))
    · exact Or.inr (Or.inr (Or.inr rfl))
  · have main : ∀ b : Nat, b < 4 → nI b = nI (c k) ∨ cb_ v wo (nI b) < dM_ v wo ∨ lo_ v wo (nI (c k)) < lo_ v wo (nI b) := fun b hb => by
      by_cases e : b = c k
      · exact Or.inl (congrArg nI e)
      · refine Or.inr ?_
        rw [hM, hcb b hb]
        have hbm := cnt_mx c 4 b hb
        by_cases e2 : cnt c b = mxN c 4
        · refine Or.inr ?_
          obtain ⟨i, hi, hi1, hi2⟩ := hfst b hb (by omega)
          rw [hkl, hlow b i hb hi hi1 hi2]
          have hki : k < i := by
            rcases Nat.lt_trichotomy k i with z | z | z
            · exact z
            · exact absurd (by rw [← hi1, z]) e
            · exact absurd ⟨by rw [hi1]; exact hb, by rw [hi1]; exact e2⟩ (hno i z)
          exact nI_lt (Nat.pow_lt_pow_right (by decide) hki) (hpw i hi)
        · exact Or.inl (nI_lt (by omega) (by omega))
    intro b hb
    rcases hb with e | e | e | e <;> subst e
    · exact main 0 (by decide)
    · exact main 1 (by decide)
    · exact main 2 (by decide)
    · exact main 3 (by decide)
/-- the result of the vote as it stands, for any scratch -/
theorem res_now (hR : RA N P B Q v) (b c : Nat → Int32) (need : Int32) : (f_X10_resultFor (v_plc v) (v_bsk v) b c need).1 = RES (cS (v_plc v) (v_bsk v) (fun _ => true)) need := by
  obtain ⟨mTaped, mErr, mPpl, mBts, mUs, mTape, mNum, mNam, mFst, mBnm, mW, mUn, mSl, mKp, hR⟩ := hR
  exact x_resS hR.2.1 (fun _ => true) (fun o ho => by
    rw [x_take ho]
    by_cases q : v_plc v o = 2
    · rw [if_pos q, if_pos ⟨q, rfl⟩]
    · rw [if_neg q, if_neg (fun z => q z.1)]) need
theorem turn_n (plc : Nat → Int32) (x : Int32) : f_X9_countAt plc x = nI (cntB (fun o => decide (plc o = x)) 20) := x_countAt plc x
theorem sm_turn (hR : RA N P B Q v) (g : Nat → Bool) : smN (cS (v_plc v) (v_bsk v) g) 4 = cntB (fun o => decide (v_plc v o = 2) && g o) 20 := by
  rw [← sm_tot]
  refine cntB_cong (fun o ho => ?_)
  unfold cS
  by_cases q : v_plc v o = 2 ∧ g o = true
  · rw [if_pos q, decide_eq_true q.1, q.2]
    rcases Nat.lt_or_ge o P with h | h
    · obtain ⟨-, hlt⟩ := vin_nI ((ra_pe hR h).2.2.2.2.2.2.2.2.2.2.2.2 (Or.inl q.1)).1
      rw [decide_eq_true hlt]
      rfl
    · rw [(ra_no hR h ho).2.2.2.2.1] at q
      exact absurd q.1 (by decide)
  · rw [if_neg q]
    cases e1 : g o
    · rw [Bool.and_false]
      rfl
    · rw [decide_eq_false (fun z => q ⟨z, e1⟩)]
      rfl
end DRES
