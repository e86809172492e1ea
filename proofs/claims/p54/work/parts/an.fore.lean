/-! WHAT IS TOLD AHEAD -/
section FOR
variable {N P B Q : Nat} {v : VT}
/-- why() tells what lay() does -/
theorem fo_lay (hR : RA N P B Q v) (hN : N ≤ 600) (hX : EX P v) {i o b : Nat} (hi : i < P) (ho : o < P) (hb : b < 4) : (a_why v (nI i) (nI o) (nI b) < 0 ∧ a_lay v (nI i) (nI o) (nI b) = a_why v (nI i) (nI o) (nI b) ∧ n_lay v (nI i) (nI o) (nI b) = v) ∨ (¬ a_why v (nI i) (nI o) (nI b) < 0 ∧ a_lay v (nI i) (nI o) (nI b) = a_basket v (nI b) + 1 ∧ a_stick (n_lay v (nI i) (nI o) (nI b)) (nI o) 5 = a_why v (nI i) (nI o) (nI b)) := by
  have h20 := (ra_nP hR).2.2
  have hr4 := reason_4 (nums := v_nums v) (seaO := v_seaO v) (plc := v_plc v) (car := v_car v) (bnd := v_bnd v) (nI i) (nI o) (nI b)
  by_cases c0 : f_X11_refusalToLay (v_nP v) (v_isOpen v) (v_baskets v) (v_seaO v) (v_plc v) (v_car v) (nI i) (nI o) (nI b) = 0
  · have ew : a_why v (nI i) (nI o) (nI b) = f_X10_reasonFor (v_nums v) (v_seaO v) (v_plc v) (v_car v) (v_bnd v) (nI i) (nI o) (nI b) := by
      unfold a_why f_X11_why
      rw [if_pos c0]
    obtain ⟨ha, hn⟩ := lf_lay_0 v (nI i) (nI o) (nI b) c0
    have hq := q_lay hR hN (nI i) (nI o) (nI b)
    obtain ⟨i2, o2, b2, ei, hi2, e2, ho2, eb, hb2, -, -, -, h01⟩ := lay_done hR c0
    have eo : o2 = o := nI_inj6 (by omega) (by omega) e2.symm
    subst eo
    rw [put_in (by omega)] at ha
    refine Or.inr ⟨by rw [ew]; exact vin_nn hr4, ?_, ?_⟩
    · rw [ha, ba_n v hb]
      show f_X9_countIn (upd (v_plc v) o2 2) (upd (v_bsk v) o2 (nI b)) (nI b) = _
      unfold f_X9_countIn
      have hno : ¬ v_plc v o2 = 2 := by
        rcases h01 with w | w
        · rw [w.1]
          decide
        · rw [w.1]
          decide
      rw [x_maskIn, bitc_msk _ (by decide), cntB_set (p := fun k => decide (v_plc v k = 2) && decide (v_bsk v k = nI b)) (q := fun k => decide (upd (v_plc v) o2 2 k = 2) && decide (upd (v_bsk v) o2 (nI b) k = nI b)) (i := o2) (fun k hk => by rw [upd_ne hk, upd_ne hk]) (by rw [decide_eq_false hno]; rfl) (by rw [upd_eq, upd_eq]; simp) (by omega)]
      exact (nI_add _ 1).symm
    · rw [sk_5 hq ho, hn, put_in (by omega), ew]
      exact upd_eq
  · have ew : a_why v (nI i) (nI o) (nI b) = f_X11_refusalToLay (v_nP v) (v_isOpen v) (v_baskets v) (v_seaO v) (v_plc v) (v_car v) (nI i) (nI o) (nI b) := by
      unfold a_why f_X11_why
      rw [if_neg c0]
    obtain ⟨ha, hn⟩ := lf_lay_1 v (nI i) (nI o) (nI b) c0
    exact Or.inl ⟨by rw [ew]; exact (ref_neg _ _ _).resolve_left c0, ha.trans ew.symm, hn⟩
/-- NEED of an open vote, as a number -/
theorem need_num (hR : RA N P B Q v) (hN : N ≤ 600) (h : v_votes v = 0 ∨ tb (v_isOpen v) = true) : ∃ t, a_value v 6 = nI t ∧ 1 ≤ t ∧ t ≤ 20 := by
  obtain ⟨d, ed, hd⟩ := (ra_sc hR).1
  obtain ⟨X, l, m, h1, -, h2, h3, hn⟩ := need_int hR (d := d) (by omega)
  have hk := hn _ (out_le (v_backB v))
  rw [need_open hR h, ed, out_n]
  generalize f_X10_needOf (v_nums v) (v_nP v) (nI d) (nI (cntB (fun b => !decide (v_backB v b = 0)) 6)) = y at hk
  have h0 : ¬ y < 0 := by
    rw [Int32.lt_iff_toInt_lt, hk, Int32.toInt_zero]
    omega
  obtain ⟨t, ht, rfl⟩ := nI_of h0
  rw [nI_toInt ht] at hk
  exact ⟨t, rfl, by omega, by omega⟩
theorem turn_val (v : VT) : a_value v 7 = nI (cntB (fun o => decide (v_plc v o = 2)) 20) := by
  rw [av_7]
  exact turn_n _ _
theorem lead_two (hR : RA N P B Q v) (hN : N ≤ 600) (h : a_value v 8 = 1) : (a_lacks v = 0 ∧ ¬ a_leads v < 0) ∨ (¬ a_lacks v = 0 ∧ a_leads v < 0) := by
  obtain ⟨hv, ho⟩ := (state_1 v).mp h
  obtain ⟨t, et, ht1, ht2⟩ := need_num hR hN (Or.inr ho)
  have hc := cntB_le (fun o => decide (v_plc v o = 2)) 20
  have hl : a_lacks v = if nI t - nI (cntB (fun o => decide (v_plc v o = 2)) 20) < 0 then 0 else nI t - nI (cntB (fun o => decide (v_plc v o = 2)) 20) := by
    rw [← et, ← turn_val, av_6, av_7]
    unfold a_lacks f_X11_lacks
    rw [ho, cond_true]
  have due := due_res hR (fun _ => true) (msk_no (v_plc v)) (a_value v 6)
  have hs := sm_turn hR (fun _ => true)
  rw [show (fun o => decide (v_plc v o = 2) && (fun _ => true) o) = fun o => decide (v_plc v o = 2) from funext (fun o => Bool.and_true _)] at hs
  rw [← leads_res hR ho, et, hs] at due
  obtain ⟨due, eT⟩ := due
  unfold DUE at due
  rw [eT] at due
  generalize cntB (fun o => decide (v_plc v o = 2)) 20 = c at hc hl due
  have es := sub_toInt (a := t) (b := c) (by omega) (by omega)
  rcases due with ⟨r, w⟩ | ⟨r, w, -⟩
  · refine Or.inr ⟨?_, by rw [r]; decide⟩
    have hlt : c < t := by
      rcases w with w | w
      · exact (nI_ltI (by omega) (by omega)).mp w
      · have := (nI_eq (b := 0) (by omega) (by decide)).mp w
        omega
    rw [hl, if_neg (by rw [Int32.lt_iff_toInt_lt, es, Int32.toInt_zero]; omega), nI_sub (by omega)]
    exact nI_ne0 (by omega) (by omega)
  · have hle := (nI_leI (by omega) (by omega)).mp w
    refine Or.inl ⟨?_, by rcases r with r | r | r | r <;> rw [r] <;> decide⟩
    rw [hl]
    rcases Nat.eq_or_lt_of_le hle with q | q
    · rw [q, nI_sub (Nat.le_refl _), Nat.sub_self, if_neg (by decide)]
      rfl
    · rw [if_pos (by rw [Int32.lt_iff_toInt_lt, es, Int32.toInt_zero]; omega)]
theorem lacks_law (hR : RA N P B Q v) (h : a_value v 8 = 1) : a_lacks v = mx 0 (a_value v 6 - a_value v 7) := by
  obtain ⟨hv, ho⟩ := (state_1 v).mp h
  rw [mx_sw, av_6, av_7]
  unfold a_lacks f_X11_lacks
  rw [ho, cond_true]
/-- leads() is what close() brings -/
theorem fo_close (hR : RA N P B Q v) (hN : N ≤ 600) (hX : EX P v) (h : a_value v 8 = 1) (b c : Nat → Int32) : a_close v = a_value (n_close v b c) 7 ∧ a_value (n_close v b c) 10 = a_leads v ∧ ¬ a_value (n_close v b c) 6 = 0 ∧ a_past (n_close v b c) (a_value (n_close v b c) 13 - 1) 3 = a_leads v ∧ ¬ a_close v < 0 := by
  obtain ⟨hv, ho⟩ := (state_1 v).mp h
  obtain ⟨t, et, ht1, ht2⟩ := need_num hR hN (Or.inr ho)
  obtain ⟨ha, hn⟩ := lf_close_0 v b c ho
  have hsp := sp_close hR hN hX b c
  have hR2 := hsp.1
  obtain ⟨mTaped, mErr, mPpl, mBts, mUs, mTape, mNum, mNam, mFst, mBnm, mW, mUn, mSl, mKp, hRR⟩ := id hR
  have e : (f_X11_close (v_nums v) (v_nP v) (v_day v) (v_votes v) (v_isOpen v) (v_baskets v) (v_lays v) (v_recs v) (v_fneed v) (v_clos v) (v_boatO v) (v_seaO v) (v_faultO v) (v_daysO v) (v_backB v) (v_sailB v) (v_plc v) (v_car v) (v_bnd v) (v_bsk v) (v_dyL v) (v_rsn v) (v_pastF v) (v_pastN v) (v_logF v) (v_logN v) b c (v_hsN v) (v_hsX v) (v_hsF v)).1 = a_close v := (ra_close hRR hN).1.trans (ra_close hRR hN).1.symm
  rw [e] at ha
  have hc7 : a_close v = f_X9_turnout (v_plc v) := ha
  have eplc : v_plc (n_close v b c) = v_plc v := by rw [hn]
  have ebsk : v_bsk (n_close v b c) = v_bsk v := by rw [hn]
  have evot : v_votes (n_close v b c) = v_votes v := by rw [hn]
  have eopn : tb (v_isOpen (n_close v b c)) = false := by
    rw [hn]
    show tb 0 = false
    decide
  have efix : a_value (n_close v b c) 6 = a_value v 6 := by
    obtain ⟨n, en, hn2⟩ := (ra_sc hR).2.1
    have hn0 : 0 < n := by
      rcases Nat.eq_zero_or_pos n with z | z
      · subst z
        exact absurd en hv
      · exact z
    rw [av_6, av_6, show f_X10_needOfVote (v_nums (n_close v b c)) (v_nP (n_close v b c)) (v_day (n_close v b c)) (v_votes (n_close v b c)) (v_isOpen (n_close v b c)) (v_fneed (n_close v b c)) (v_backB (n_close v b c)) = v_fneed (n_close v b c) from ?_]
    · rw [hn]
      rfl
    · unfold f_X10_needOfVote
      rw [evot, en, if_neg (show ¬ nI n ≤ (0 : Int32) from fun z => absurd ((nI_leI (b := 0) (by omega) (by decide)).mp z) (by omega)), eopn, cond_false]
  have hl : a_value (n_close v b c) 10 = a_leads v := by
    rw [value10_res hR2 eopn, leads_res hR ho, efix, eplc, ebsk]
  refine ⟨?_, hl, ?_, ?_, ?_⟩
  · rw [av_7, eplc]
    exact hc7
  · rw [efix, et]
    exact nI_ne0 (by omega) (by omega)
  · obtain ⟨a, w, e1, e2, e3, -, e4⟩ := hRR.2.1.2.2.2.2.2.1
    have hw : w ≤ N := by
      obtain ⟨n, en, hn2⟩ := (ra_sc hR).2.1
      have := (nI_eq (by omega) (by omega)).mp (e2.1.symm.trans en)
      omega
    rw [ho] at e3
    have e3 : w = a + 1 := e3
    have ep : a_past (n_close v b c) (nI a) 3 = (f_X10_resultFor (v_plc v) (v_bsk v) b c (a_value v 6)).1 := by
      unfold a_past f_X11_past
      rw [if_neg (nI_pos (by omega)), show f_X11_isIn 3 4 = true by decide, cond_true, hn]
      show f_X5_part 8 (f_X5_add 8 (v_pastF v) (v_pastN v) (v_day v) (f_X9_turnout (v_plc v)) (f_X10_needOfVote (v_nums v) (v_nP v) (v_day v) (v_votes v) (v_isOpen v) (v_fneed v) (v_backB v)) (f_X10_resultFor (v_plc v) (v_bsk v) b c (f_X10_needOfVote (v_nums v) (v_nP v) (v_day v) (v_votes v) (v_isOpen v) (v_fneed v) (v_backB v))).1).2 (f_X5_add 8 (v_pastF v) (v_pastN v) (v_day v) (f_X9_turnout (v_plc v)) (f_X10_needOfVote (v_nums v) (v_nP v) (v_day v) (v_votes v) (v_isOpen v) (v_fneed v) (v_backB v)) (f_X10_resultFor (v_plc v) (v_bsk v) b c (f_X10_needOfVote (v_nums v) (v_nP v) (v_day v) (v_votes v) (v_isOpen v) (v_fneed v) (v_backB v))).1).1 (nI a) (nI 3) = _
      rw [← av_6, e1, past_add (by omega), part_N (by decide) (by decide) (by omega) (by omega) (by omega) (vinI (by decide) (by decide)), nI_clamp (by decide)]
      exact upd_eq
    have e13 : a_value (n_close v b c) 13 - 1 = nI a := by
      rw [av_13, evot, e2.1, e3]
      exact nI_sub (b := 1) (by omega)
    rw [e13, ep, res_now hR, leads_res hR ho]
  · rw [hc7]
    show ¬ f_X9_countAt (v_plc v) 2 < 0
    rw [turn_n]
    exact cnt_nn _
theorem RES_cong {c d : Nat → Nat} (h : ∀ o, o < 20 → c o = d o) (need : Int32) : RES c need = RES d need := by
  have hc : ∀ b, cnt c b = cnt d b := fun b => cntB_cong (fun o ho => by rw [h o ho])
  have hm : ∀ n, mxN c n = mxN d n := fun n => by
    induction n with
    | zero => rfl
    | succ n ih =>
      show max (mxN c n) (cnt c n) = max (mxN d n) (cnt d n)
      rw [ih, hc]
  have hs : ∀ n, smN c n = smN d n := fun n => by
    induction n with
    | zero => rfl
    | succ n ih =>
      show smN c n + cnt c n = smN d n + cnt d n
      rw [ih, hc]
  unfold RES
  have hw : wh_ (fun o => decide (c o < 4 ∧ cnt c (c o) = mxN c 4)) 19 = wh_ (fun o => decide (d o < 4 ∧ cnt d (d o) = mxN d 4)) 19 := wh_cong (fun k hk => by rw [h k (by omega), hm, hc])
  have hl : wh_ (fun o => decide (d o < 4 ∧ cnt d (d o) = mxN d 4)) 19 ≤ 19 := wh_le
  rw [hs, hw, h _ (by omega)]
/-- a recount strikes all wrong ones, and truly() is the result then -/
theorem fo_recount (hR : RA N P B Q v) (hN : N ≤ 600) (hX : EX P v) (h : a_value v 8 = 2) (h12 : a_value v 12 < a_number v 9) (b c : Nat → Int32) : a_recount v = a_value v 16 ∧ a_value (n_recount v b c) 10 = a_truly v ∧ a_wrongOnes (n_recount v b c) = 0 ∧ ¬ a_recount v < 0 := by
  have c1 : v_recs v < f_X7_numberOf (v_nums v) 9 := by
    rw [av_12, show a_number v 9 = v_nums v 9 from nu_n v (k := 9) (by decide)] at h12
    rw [show f_X7_numberOf (v_nums v) 9 = v_nums v 9 from number_nI (i := 9) (by decide)]
    exact h12
  have c0 : f_X10_stateOfVote (v_nums v) (v_day v) (v_votes v) (v_isOpen v) (v_clos v) = 2 := by rw [← av_8]; exact h
  obtain ⟨ha, hn⟩ := lf_recount_0 v b c c0 c1
  have hR2 := (sp_recount hR hN hX b c).1
  obtain ⟨mTaped, mErr, mPpl, mBts, mUs, mTape, mNum, mNam, mFst, mBnm, mW, mUn, mSl, mKp, hRR⟩ := id hR
  have e : (f_X11_recount (v_nums v) (v_nP v) (v_day v) (v_votes v) (v_isOpen v) (v_baskets v) (v_lays v) (v_recs v) (v_fneed v) (v_clos v) (v_boatO v) (v_seaO v) (v_faultO v) (v_daysO v) (v_backB v) (v_sailB v) (v_plc v) (v_car v) (v_bnd v) (v_bsk v) (v_dyL v) (v_rsn v) (v_pastF v) (v_pastN v) (v_logF v) (v_logN v) b c (v_hsN v) (v_hsX v) (v_hsF v)).1 = a_recount v := (ra_recount hRR hN).1.trans (ra_recount hRR hN).1.symm
  rw [e] at ha
  have hv := vs_wrong (v_day v) (v_rsn v) (v_logF v) (v_logN v) (v_plc v) 20 (Nat.le_refl _)
  have ha2 : a_recount v = nI (cntB (fun o => decide (v_plc v o = 2) && !decide (v_rsn v o = 0)) 20) := by
    rw [ha]
    show (L_X10_strikeAllWrong_9 (v_day v) (v_plc v) (v_rsn v) (v_logF v) (v_logN v) 20).1 = _
    rw [hv]
  have eplc : ∀ o, o < 20 → v_plc (n_recount v b c) o = if (decide (v_plc v o = 2) && !decide (v_rsn v o = 0)) = true then 3 else v_plc v o := fun o ho => by
    rw [hn]
    show (L_X10_strikeAllWrong_9 (v_day v) (v_plc v) (v_rsn v) (v_logF v) (v_logN v) 20).2.2.2 o = _
    rw [hv]
    show (VSt (fun o => decide (v_plc v o = 2) && !decide (v_rsn v o = 0)) (v_day v) (v_rsn v) (v_logF v) (v_logN v) (v_plc v) 20).2.2 o = _
    rw [vs_plc _ _ _ _ _ _ 20 (Nat.le_refl _) o]
    by_cases q : (decide (v_plc v o = 2) && !decide (v_rsn v o = 0)) = true
    · rw [if_pos ⟨ho, q⟩, if_pos q]
    · rw [if_neg (fun z => q z.2), if_neg q]
  have ersn : v_rsn (n_recount v b c) = v_rsn v := by rw [hn]
  have ebsk : v_bsk (n_recount v b c) = v_bsk v := by rw [hn]
  have eopn : v_isOpen (n_recount v b c) = v_isOpen v := by rw [hn]
  have hv0 : ¬ v_votes v = 0 := fun z => by
    rw [state_cl, if_pos z] at h
    exact absurd h (by decide)
  have hcl : tb (v_isOpen v) = false := by
    cases q : tb (v_isOpen v)
    · rfl
    · rw [state_cl, if_neg hv0, q] at h
      exact absurd (show (1 : Int32) = 2 from h) (by decide)
  have efix : a_value (n_recount v b c) 6 = a_value v 6 := by
    rw [av_6, av_6, hn]
  refine ⟨?_, ?_, ?_, by rw [ha2]; exact cnt_nn _⟩
  · rw [ha2, av_16, x_wrong, bitc_msk _ (by decide)]
  · rw [value10_res hR2 (by rw [eopn]; exact hcl), truly_res hR hN hv0, efix]
    refine RES_cong (fun o ho => ?_) _
    unfold cS
    rw [eplc o ho, ebsk]
    by_cases q : v_plc v o = 2
    · by_cases q2 : v_rsn v o = 0
      · simp [q, q2]
      · simp [q, q2]
    · simp [q]
  · unfold a_wrongOnes f_X11_wrongOnes
    rw [x_wrong, ersn, mskB_cong (q := fun _ => false) (fun o ho => ?_), msk_f]
    · rfl
    · show (decide (v_plc (n_recount v b c) o = 2) && !decide (v_rsn v o = 0)) = false
      rw [eplc o ho]
      by_cases q : v_plc v o = 2
      · by_cases q2 : v_rsn v o = 0
        · simp [q, q2]
        · simp [q, q2]
      · simp [q]
theorem fo_norecount (v : VT) (h : ¬ (a_value v 8 = 2 ∧ a_value v 12 < a_number v 9)) (b c : Nat → Int32) : a_recount v = -5 ∧ n_recount v b c = v := by
  by_cases q : f_X10_stateOfVote (v_nums v) (v_day v) (v_votes v) (v_isOpen v) (v_clos v) = 2
  · have q2 : ¬ v_recs v < f_X7_numberOf (v_nums v) 9 := fun z => h ⟨by rw [av_8]; exact q, by
      rw [av_12, show a_number v 9 = v_nums v 9 from nu_n v (k := 9) (by decide)]
      rw [show f_X7_numberOf (v_nums v) 9 = v_nums v 9 from number_nI (i := 9) (by decide)] at z
      exact z⟩
    exact ⟨(lf_recount_1 v z0 z0 q q2).1, (lf_recount_1 v b c q q2).2⟩
  · exact ⟨(lf_recount_2 v z0 z0 q).1, (lf_recount_2 v b c q).2⟩
end FOR
