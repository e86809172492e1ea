/-! WHAT STANDS, the sums -/
theorem cnt_split (c : Nat → Nat) (s : Nat → Bool) (n : Nat) : ∀ m, cntB (fun p => decide (c p < m) && s p) n + cntB (fun p => decide (c p = m) && s p) n = cntB (fun p => decide (c p < m + 1) && s p) n := fun m => by
  rw [cntB_sum (fun i hi z => ?_)]
  · refine cntB_cong (fun i hi => ?_)
    cases s i
    · simp
    · simp only [Bool.and_true]
      rw [← Bool.decide_or]
      exact decide_eq_decide.mpr (by omega)
  · simp only [Bool.and_eq_true, decide_eq_true_eq] at z
    omega
section STG
variable {N P B Q : Nat} {v : VT}
theorem alk32_of {x y : UInt32} (h : alike32 x y = true) : alike32 x y = true := h
theorem alike32_rf (x : UInt32) : alike32 x x = true := by
  unfold alike32
  rw [decide_eq_true rfl]
  rfl
theorem alike64_rf (x : UInt64) : alike64 x x = true := by
  unfold alike64
  rw [decide_eq_true rfl]
  rfl
theorem kf_ok (hR : RA N P B Q v) (hX : EX P v) {b : Nat} (hb : b < 4) : KF v (nI b) := by
  refine ⟨by rw [ba_n v hb, ow_n v hb, bitc_msk _ (by decide)], fun r1 r2 h1 h2 => ?_, ?_⟩
  · rw [av_7] at h2
    have e : a_share v (nI b) = if f_X9_turnout (v_plc v) = 0 then FP.fconst0 else FP.fdiv (FP.i2f (a_basket v (nI b))) (FP.i2f (f_X9_turnout (v_plc v))) := by
      unfold a_share f_X11_share a_basket f_X11_basket
      rw [isBk hb, cond_true, cond_true]
    rw [e] at h1
    rcases h2 with ⟨q, rfl⟩ | ⟨q, h2⟩
    · rw [if_pos q] at h1
      exact feq0 fz_num h1 (alike32_rf _)
    · rw [if_neg q] at h1
      exact feq0 (fdiv_num q) h1 h2
  · rw [av_9]
    by_cases q : nI b < v_baskets v
    · exact Or.inl q
    · refine Or.inr ⟨q, ?_⟩
      rw [ba_n v hb, cntB_no (fun o ho => ?_)]
      · rfl
      · by_cases c : v_plc v o = 2
        · rw [decide_eq_true c, Bool.true_and]
          refine decide_eq_false (fun z => q ?_)
          rw [← z]
          rcases Nat.lt_or_ge o P with h | h
          · exact ((hX.1 o h).2.2) (Or.inl c)
          · rw [(ra_no hR h ho).2.2.2.2.1] at c
            exact absurd c (by decide)
        · rw [decide_eq_false c]
          rfl
theorem iter_cntP {f : Nat → Int32 → Int32} {p : Nat → Bool} {M : Nat} (h : ∀ n, n < M → ∀ s, f n s = s + (if p n = true then 1 else 0)) : iter_ f 0 M = nI (cntB p M) := by
  refine iter_cnt (N := M) (fun n s hn => ?_) M (Nat.le_refl _)
  rw [h n hn s]
  cases p n
  · exact Int32.add_zero _
  · rfl
theorem sea_sum (hR : RA N P B Q v) : sSea v P = nI (cntB (fun p => !decide (v_seaO v p = 0)) 20) := by
  rw [cnt_P hR (fun i h1 h2 => by rw [(ra_no hR h1 h2).2.1]; rfl)]
  refine iter_cntP (fun n hn s => ?_)
  rw [pe_1 hR hn]
  by_cases q : v_seaO v n = 0
  · rw [if_pos q, q]
    rfl
  · rw [if_neg q, decide_eq_false q]
    rfl
theorem out_sum (hR : RA N P B Q v) : sOut v B = nI (cntB (fun b => !decide (v_backB v b = 0)) 6) := by
  rw [cnt_B hR (fun i h1 h2 => by rw [ra_bno hR h1 h2]; rfl)]
  refine iter_cntP (fun n hn s => ?_)
  rw [bo_0 hR hn]
  by_cases q : v_backB v n = 0
  · rw [if_pos q, q]
    rfl
  · rw [if_neg q, decide_eq_false q]
    rfl
theorem str_sum (hR : RA N P B Q v) : sStr v P = nI (cntB (fun p => decide (v_plc v p = 3)) 20) := by
  rw [cnt_P hR (fun i h1 h2 => by rw [(ra_no hR h1 h2).2.2.2.2.1]; rfl)]
  refine iter_cntP (fun n hn s => ?_)
  rw [sk_0 hR hn]
  by_cases q : v_plc v n = 3
  · rw [if_pos q, if_pos (decide_eq_true q)]
  · rw [if_neg q, if_neg (fun z => q (of_decide_eq_true z))]
theorem trn_sum (hR : RA N P B Q v) : sTrn v P = nI (cntB (fun p => decide (v_plc v p = 2)) 20) := by
  rw [cnt_P hR (fun i h1 h2 => by rw [(ra_no hR h1 h2).2.2.2.2.1]; rfl)]
  refine iter_cntP (fun n hn s => ?_)
  rw [sk_0 hR hn]
  by_cases q : v_plc v n = 2
  · rw [if_pos q, if_pos (decide_eq_true q)]
  · rw [if_neg q, if_neg (fun z => q (of_decide_eq_true z))]
theorem wrg_sum (hR : RA N P B Q v) : sWrg v P = nI (mskB (fun o => decide (v_plc v o = 2) && !decide (v_rsn v o = 0)) 20) := by
  have h20 := (ra_nP hR).2.2
  rw [mskB_ext _ h20 (fun i h1 h2 => by rw [(ra_no hR h1 h2).2.2.2.2.1]; rfl)]
  refine iter_msk (N := P) (by omega) (fun n s hn => ?_) P (Nat.le_refl _)
  rw [sk_0 hR hn, sk_5 hR hn]
  have hr := vin_nn (ra_pe hR hn).2.2.2.2.2.2.2.2.2.2.1
  have hle : v_rsn v n ≤ 0 ↔ v_rsn v n = 0 := ⟨fun z => Int32.le_antisymm z (Int32.not_lt.mp hr), fun z => by rw [z]; exact Int32.le_refl _⟩
  by_cases q : v_plc v n = 2
  · by_cases q2 : v_rsn v n = 0
    · rw [if_neg (fun z => z.2 (hle.mpr q2)), q2, decide_eq_true q]
      exact or0 s
    · rw [if_pos ⟨q, fun z => q2 (hle.mp z)⟩, decide_eq_true q, decide_eq_false q2]
      rfl
  · rw [if_neg (fun z => q z.1), decide_eq_false q]
    exact or0 s
theorem abo_sum (hR : RA N P B Q v) : ∀ m, m ≤ B → sAbo v m = nI (cntB (fun p => decide ((v_boatO v p).toNatClampNeg < m) && !decide (v_seaO v p = 0)) 20) := by
  intro m
  induction m with
  | zero =>
    intro _
    rw [cntB_no (fun i hi => by simp)]
    exact iter_z _ _
  | succ m ih =>
    intro hm
    have hB6 := (ra_nB hR).2
    have e : sAbo v (m + 1) = sAbo v m + a_boat v (nI m) 2 := iter_s _ _ _
    rw [e, ih (by omega), bo_2 hR (by omega), aboard_n, ← cnt_split, ← nI_add]
    refine congrArg (HAdd.hAdd _) (congrArg nI (cntB_cong (fun p hp => ?_)))
    by_cases q : v_seaO v p = 0
    · rw [q]
      simp
    · rw [decide_eq_false q, Bool.not_false, Bool.and_true, Bool.and_true]
      refine decide_eq_decide.mpr ⟨fun z => by rw [z, nI_clamp (by omega)], fun z => ?_⟩
      rcases Nat.lt_or_ge p P with h | h
      · rcases (ra_pe hR h).2.1 with w | ⟨-, w, -⟩
        · exact absurd w q
        · obtain ⟨e2, -⟩ := vin_nI w
          rw [e2, z]
      · exact absurd (ra_no hR h hp).2.1 q
theorem abo_all (hR : RA N P B Q v) : sAbo v B = sSea v P := by
  rw [abo_sum hR B (Nat.le_refl _), sea_sum hR]
  refine congrArg nI (cntB_cong (fun p hp => ?_))
  by_cases q : v_seaO v p = 0
  · rw [q]
    simp
  · rw [decide_eq_false q, Bool.not_false, Bool.and_true]
    refine decide_eq_true ?_
    rcases Nat.lt_or_ge p P with h | h
    · rcases (ra_pe hR h).2.1 with w | ⟨-, w, -⟩
      · exact absurd w q
      · exact (vin_nI w).2
    · exact absurd (ra_no hR h hp).2.1 q
theorem all_sum (hR : RA N P B Q v) : sAll v = sTrn v P := by
  rw [trn_sum hR]
  show (((nI 0 + a_basket v (nI 0)) + a_basket v (nI 1)) + a_basket v (nI 2)) + a_basket v (nI 3) = _
  rw [ba_n v (b := 0) (by decide), ba_n v (b := 1) (by decide), ba_n v (b := 2) (by decide), ba_n v (b := 3) (by decide), nI_add, nI_add, nI_add, nI_add, Nat.zero_add]
  have h := sm_turn hR (fun _ => true)
  rw [show (fun o => decide (v_plc v o = 2) && (fun _ => true) o) = fun o => decide (v_plc v o = 2) from funext (fun o => Bool.and_true _)] at h
  rw [← h]
  refine congrArg nI ?_
  have e : ∀ n, n < 4 → cntB (fun o => decide (v_plc v o = 2) && decide (v_bsk v o = nI n)) 20 = cnt (cS (v_plc v) (v_bsk v) (fun _ => true)) n := fun n hn => cntB_cong (fun o ho => by
    rw [cS_ra hR _ ho hn, Bool.and_true])
  rw [e 0 (by decide), e 1 (by decide), e 2 (by decide), e 3 (by decide)]
  show _ = 0 + cnt _ 0 + cnt _ 1 + cnt _ 2 + cnt _ 3
  rw [Nat.zero_add]
theorem need_law (hR : RA N P B Q v) (hN : N ≤ 600) : sNeed v (nI P) (sOut v B) = f_X10_needOf (v_nums v) (v_nP v) (v_day v) (f_X2_boatsOut (v_backB v)) := by
  obtain ⟨d, ed, hd⟩ := (ra_sc hR).1
  obtain ⟨s, X, l, m, hs4, hs, hX, -, e5, -, e6, -, -, hn⟩ := need_cl hR (d := d) (by omega)
  unfold sNeed
  have e1 : a_number v (1 + a_value v 1) = v_nums v (1 + s) := by
    rw [av_1, ed, hs, show (1 : Int32) + nI s = nI (1 + s) from nI_add 1 s]
    exact nu_n v (by omega)
  have e2 : a_number v 5 = nI l := (nu_n v (k := 5) (by decide)).trans e5
  have e3 : a_number v 6 = nI m := (nu_n v (k := 6) (by decide)).trans e6
  rw [e1, e2, e3, hX, mx_sw, out_sum hR, ed, hn, out_n]
theorem state_cl (v : VT) : a_value v 8 = if v_votes v = 0 then 0 else bif tb (v_isOpen v) then 1 else if v_clos v + f_X7_numberOf (v_nums v) 8 < v_day v then 3 else 2 := by
  rw [av_8]
  rfl
/-- NEED of an open vote, or of none, is NEED as it is -/
theorem need_open (hR : RA N P B Q v) (h : v_votes v = 0 ∨ tb (v_isOpen v) = true) : a_value v 6 = f_X10_needOf (v_nums v) (v_nP v) (v_day v) (f_X2_boatsOut (v_backB v)) := by
  rw [av_6]
  unfold f_X10_needOfVote
  rcases h with z | z
  · rw [if_pos (by rw [z]; exact Int32.le_refl _)]
  · rw [z, cond_true]
    split <;> rfl
theorem le1_open (v : VT) (h : a_value v 8 ≤ 1) : v_votes v = 0 ∨ tb (v_isOpen v) = true := by
  rw [state_cl] at h
  by_cases q : v_votes v = 0
  · exact Or.inl q
  · rw [if_neg q] at h
    cases q2 : tb (v_isOpen v)
    · rw [q2, cond_false] at h
      split at h
      · exact absurd h (by decide)
      · exact absurd h (by decide)
    · exact Or.inr rfl
theorem leads_res (hR : RA N P B Q v) (h : tb (v_isOpen v) = true) : a_leads v = RES (cS (v_plc v) (v_bsk v) (fun _ => true)) (a_value v 6) := by
  unfold a_leads f_X11_leads S_X11_leads_14
  rw [h, cond_true, av_6]
  exact res_now hR z0 z0 _
theorem value10_res (hR : RA N P B Q v) (h : tb (v_isOpen v) = false) : a_value v 10 = RES (cS (v_plc v) (v_bsk v) (fun _ => true)) (a_value v 6) := by
  rw [av_10, h, cond_false, av_6]
  exact res_now hR z0 z0 _
theorem truly_res (hR : RA N P B Q v) (hN : N ≤ 600) (hv : ¬ v_votes v = 0) : a_truly v = RES (cS (v_plc v) (v_bsk v) (fun o => decide (v_rsn v o = 0))) (a_value v 6) := by
  obtain ⟨mTaped, mErr, mPpl, mBts, mUs, mTape, mNum, mNam, mFst, mBnm, mW, mUn, mSl, mKp, hR⟩ := hR
  have hP := su_P hR.1
  refine (eq_truly hR.2.1 hR.1 hN z0 z0).trans ?_
  unfold f_X12_truly
  rw [rs_votes hR.2.1, if_neg hv, ← eq_needNow hR.2.1 hR.1 hN, hR.1.2.1, av_6]
  exact m_resS hR.2.1 hP (fun o => decide (v_rsn v o = 0)) (by rw [← eq_wrong hR.2.1 hP, x_wrong]) _
theorem state_0 (v : VT) : a_value v 8 = 0 ↔ v_votes v = 0 := by
  rw [state_cl]
  by_cases q : v_votes v = 0
  · rw [if_pos q]
    exact ⟨fun _ => q, fun _ => rfl⟩
  · rw [if_neg q]
    refine ⟨fun z => absurd z ?_, fun z => absurd z q⟩
    cases tb (v_isOpen v)
    · show ¬ (if _ then _ else _) = _
      split
      · decide
      · decide
    · show ¬ (1 : Int32) = 0
      decide
theorem state_1 (v : VT) : a_value v 8 = 1 ↔ (¬ v_votes v = 0 ∧ tb (v_isOpen v) = true) := by
  rw [state_cl]
  by_cases q : v_votes v = 0
  · rw [if_pos q]
    exact ⟨fun z => absurd z (by decide), fun z => absurd q z.1⟩
  · rw [if_neg q]
    cases tb (v_isOpen v)
    · refine ⟨fun z => absurd z ?_, fun z => absurd z.2 (by decide)⟩
      show ¬ (if _ then _ else _) = _
      split
      · decide
      · decide
    · exact ⟨fun _ => ⟨q, rfl⟩, fun _ => rfl⟩
theorem sea_rate (hR : RA N P B Q v) (hN : N ≤ 600) : a_seafaring v = (if a_value v 0 = 0 then FP.dconst0 else FP.ddiv (FP.i2d (sSum v P)) (FP.i2d (a_value v 0 * nI P))) ∧ (¬ a_value v 0 = 0 → ¬ a_value v 0 * nI P = 0) := by
  have h20 := (ra_nP hR).2.2
  have h2 := (ra_nP hR).2.1
  obtain ⟨d, ed, hd⟩ := (ra_sc hR).1
  have hS : ∀ mW : Nat → Int32, (∀ p, p < P → mW (9 + 11 * p + 3) = v_daysO v p) → ∀ n, n ≤ P → L_X12_seafaring_4 mW n = sSum v n := fun mW hm n => by
    induction n with
    | zero => exact fun _ => (iter_z _ _).trans (iter_z _ _).symm
    | succ n ih =>
      intro hn
      have e : sSum v (n + 1) = sSum v n + a_person v (nI n) 6 := iter_s _ _ _
      refine (iter_s _ _ _).trans ?_
      show L_X12_seafaring_4 mW n + f_X12_of mW (nI n) 3 = _
      rw [e, ih (by omega), of_3 (by omega), hm n (by omega), pe_6 hR (by omega)]
  refine ⟨?_, fun q => ?_⟩
  · obtain ⟨mTaped, mErr, mPpl, mBts, mUs, mTape, mNum, mNam, mFst, mBnm, mW, mUn, mSl, mKp, hR⟩ := hR
    refine (eq_seafaring hR.2.1 hR.1 hN).trans ?_
    unfold f_X12_seafaring
    rw [rs_day hR.2.1, hR.1.2.1, nI_clamp (by omega), hS mW (fun p hp => (hR.2.1.2.1 p hp).2.2.2.1.1) P (Nat.le_refl _), av_0]
  · rw [av_0, ed] at q ⊢
    have hd0 : 0 < d := by
      rcases Nat.eq_zero_or_pos d with z | z
      · subst z
        exact absurd rfl q
      · exact z
    have hm : d * P ≤ 59400 * 20 := Nat.mul_le_mul (by omega) h20
    rw [pk_mul]
    exact nI_ne0 (Nat.mul_pos hd0 (by omega)) (by omega)
theorem stf_ok (hR : RA N P B Q v) (hN : N ≤ 600) (hX : EX P v) : STF v P B := by
  obtain ⟨h2, -, hP20⟩ := ra_nP hR
  obtain ⟨h3, hB6⟩ := ra_nB hR
  have hsea := sea_sum hR
  have hout := out_sum hR
  have htr := trn_sum hR
  have hst := str_sum hR
  have hwr := wrg_sum hR
  have hneed := need_law hR hN
  have hd0 : a_value v 6 = a_value v 6 := rfl
  have due0 := (due_res hR (fun _ => true) (msk_no (v_plc v)) (a_value v 6)).1
  have due1 := (due_res hR (fun o => decide (v_rsn v o = 0)) (wo := sWrg v P) (by rw [hwr]) (a_value v 6)).1
  have k4 : ∀ b : Int32, b = 0 ∨ b = 1 ∨ b = 2 ∨ b = 3 → KF v b := fun b hb => by
    rcases hb with e | e | e | e <;> subst e
    · exact kf_ok hR hX (b := 0) (by decide)
    · exact kf_ok hR hX (b := 1) (by decide)
    · exact kf_ok hR hX (b := 2) (by decide)
    · exact kf_ok hR hX (b := 3) (by decide)
  refine ⟨⟨?_, (abo_all hR).symm, ?_, ?_, all_sum hR, ?_, ?_, ?_, ?_, ?_, ?_, ?_, ?_, ?_⟩, k4, fun j hj => bf_ok hR hN hj, (av_3 v).trans h3, hB6, fun j hj => pf_ok hR hX hj, hP20, (av_2 v).trans h2, ?_⟩
  · rw [av_5, hsea, atsea_n]
  · rw [av_4, hout, out_n]
  · rw [av_7, htr]
    exact (turn_n _ _).symm
  · rw [av_11, hst]
    exact (turn_n _ _).symm
  · rw [hwr]
    unfold a_wrongOnes f_X11_wrongOnes
    rw [x_wrong]
  · rw [av_16, hwr, x_wrong]
  · rw [av_15, h2, hsea, atsea_n]
  · rw [needIn_0 hR, hneed]
  · by_cases q : a_value v 8 ≤ 1
    · exact Or.inr ⟨q, by rw [hneed]; exact need_open hR (le1_open v q)⟩
    · exact Or.inl q
  · obtain ⟨e1, e2⟩ := sea_rate hR hN
    intro r1 r2 a1 a2
    rw [e1] at a1
    rcases a2 with ⟨q, rfl⟩ | ⟨q, a2⟩
    · rw [if_pos q] at a1
      exact deq0 dz_num a1 (alike64_rf _)
    · rw [if_neg q] at a1
      exact deq0 (ddiv_num (e2 q)) a1 a2
  · by_cases q : a_value v 8 = 1
    · refine Or.inl ⟨q, ?_⟩
      rw [leads_res hR ((state_1 v).mp q).2]
      exact due0
    · refine Or.inr ⟨q, ?_⟩
      cases q2 : tb (v_isOpen v)
      · rw [value10_res hR q2]
        exact due0
      · exact absurd ((state_1 v).mpr ⟨(ra_sc hR).2.2.1 q2, q2⟩) q
  · by_cases q : a_value v 8 = 0
    · refine Or.inl ⟨q, Or.inl ⟨rfl, Or.inr ?_⟩⟩
      rw [(due_res hR (fun o => decide (v_rsn v o = 0)) (wo := sWrg v P) (by rw [hwr]) (a_value v 6)).2, sm_turn hR, cntB_no (fun o ho => ?_)]
      · rfl
      · have hz := (state_0 v).mp q
        have : ¬ v_plc v o = 2 := fun z => by
          rcases Nat.lt_or_ge o P with h | h
          · exact ((ra_pe hR h).2.2.2.2.2.2.2.2.2.2.2.2 (Or.inl z)).2 hz
          · rw [(ra_no hR h ho).2.2.2.2.1] at z
            exact absurd z (by decide)
        rw [decide_eq_false this]
        rfl
    · refine Or.inr ⟨q, ?_⟩
      rw [truly_res hR hN (fun z => q ((state_0 v).mpr z))]
      exact due1
  · have e : f_X9_turnout (v_plc v) + f_X9_struckOnes (v_plc v) = v_lays v := by
      rw [hX.2, show f_X9_turnout (v_plc v) = nI (cntB (fun o => decide (v_plc v o = 2)) 20) from turn_n _ _, show f_X9_struckOnes (v_plc v) = nI (cntB (fun o => decide (v_plc v o = 3)) 20) from turn_n _ _, nI_add, cntB_sum (fun i hi z => ?_)]
      simp only [decide_eq_true_eq] at z
      rw [z.1] at z
      exact absurd z.2 (by decide)
    unfold a_agrees f_X11_agrees
    rw [if_pos e]
    rfl
end STG
