/-! WHAT AN ACT DOES: the invariant, what stands beside it, the history -/
def STX (N P B Q : Nat) (v u : VT) (r : Int32) : Prop := RA (N + 1) P B Q u ∧ EX P u ∧ u.2.1 = v.2.1 ∧ u.2.2.2 = v.2.2.2 ∧ v_faultO v 0 ≤ v_faultO u 0 ∧ ((r < 0 ∧ u = v) ∨ (¬ r < 0 ∧ u.2.2.1 = rem_h v))
section ACT
variable {N P B Q : Nat} {v : VT}
theorem STX.ref {u : VT} {r : Int32} (hq : RA (N + 1) P B Q u) (hX : EX P v) (e : u = v) (hr : r < 0) : STX N P B Q v u r := by
  subst e
  exact ⟨hq, hX, rfl, rfl, Int32.le_refl _, Or.inl ⟨hr, rfl⟩⟩
theorem STX.done {u : VT} {r : Int32} {T : StT} (hq : RA (N + 1) P B Q u) (e : u = (T, v.2.1, rem_h v, v.2.2.2.1, v.2.2.2.2.1, v.2.2.2.2.2)) (hX : EX P (T, v.2.1, rem_h v, v.2.2.2.1, v.2.2.2.2.1, v.2.2.2.2.2)) (hf : v_faultO v 0 ≤ v_faultO (T, v.2.1, rem_h v, v.2.2.2.1, v.2.2.2.2.1, v.2.2.2.2.2) 0) (hr : ¬ r < 0) : STX N P B Q v u r := by
  subst e
  exact ⟨hq, hX, rfl, rfl, hf, Or.inr ⟨hr, rfl⟩⟩
theorem cnt_nn (p : Nat → Bool) : ¬ nI (cntB p 20) < 0 := nI_pos (by have := cntB_le p 20; omega)
theorem vin_nn {x : Int32} {n : Nat} (h : vp_in x n) : ¬ x < 0 := fun z => h (Or.inl z)
set_option maxHeartbeats 4000000 in
theorem sp_sail (hR : RA N P B Q v) (hN : N ≤ 600) (hX : EX P v) (x y : Int32) : STX N P B Q v (n_sail v x y) (a_sail v x y) := by
  rcases ef_sail v x y with ⟨h1, h2⟩ | ⟨c0, c1, c2, ha, hn⟩
  · exact STX.ref (q_sail hR hN x y) hX h2 h1
  · refine STX.done (q_sail hR hN x y) hn hX (Int32.le_refl _) ?_
    obtain ⟨b, rfl, hb⟩ := ra_isB' hR c0
    have := (ra_nB hR).2
    rw [ha]
    show ¬ (f_X2_leave (v_boatO v) (v_seaO v) (v_backB v) (v_sailB v) (nI b) (v_day v + y)).1 < 0
    rw [x_leave (by omega) rfl]
    exact cnt_nn _
set_option maxHeartbeats 4000000 in
theorem sp_delay (hR : RA N P B Q v) (hN : N ≤ 600) (hX : EX P v) (x y : Int32) : STX N P B Q v (n_delay v x y) (a_delay v x y) := by
  rcases ef_delay v x y with ⟨h1, h2⟩ | ⟨c0, c1, c2, ha, hn⟩
  · exact STX.ref (q_delay hR hN x y) hX h2 h1
  · refine STX.done (q_delay hR hN x y) hn hX (Int32.le_refl _) ?_
    obtain ⟨b, rfl, hb⟩ := ra_isB' hR c0
    obtain ⟨d, rfl, hd1, hd2⟩ := days_of c1
    have := (ra_nB hR).2
    rw [ha]
    unfold f_X2_moveBack
    rw [x_backB (by omega), setCell_nI (by decide) (by omega), x_backB (by omega), upd_eq]
    rw [x_out (by omega)] at c2
    rcases ra_bo hR hb with z | ⟨k, z, hk, -⟩
    · rw [z] at c2
      exact absurd c2 (by decide)
    · rw [z, nI_add]
      exact nI_pos (by omega)
set_option maxHeartbeats 4000000 in
theorem sp_comeHome (hR : RA N P B Q v) (hN : N ≤ 600) (hX : EX P v) (x : Int32) : STX N P B Q v (n_comeHome v x) (a_comeHome v x) := by
  rcases ef_comeHome v x with ⟨h1, h2⟩ | ⟨c0, c1, ha, hn⟩
  · exact STX.ref (q_comeHome hR hN x) hX h2 h1
  · refine STX.done (q_comeHome hR hN x) hn hX (Int32.le_refl _) ?_
    obtain ⟨b, rfl, hb⟩ := ra_isB' hR c0
    have := (ra_nB hR).2
    rw [ha]
    show ¬ (f_X2_arrive (v_boatO v) (v_seaO v) (v_backB v) (nI b)).1 < 0
    rw [x_arrive (by omega) rfl]
    show ¬ f_X2_aboard (v_boatO v) (v_seaO v) (nI b) < 0
    rw [aboard_n]
    exact cnt_nn _
theorem boat_nn (hR : RA N P B Q v) {p : Nat} (hp : p < P) (h : ¬ f_X2_boatOf (v_boatO v) (nI p) = -2) : ¬ f_X2_boatOf (v_boatO v) (nI p) + 1 < 0 := by
  have h20 := (ra_nP hR).2.2
  have hB := (ra_nB hR).2
  rw [x_boatO (by omega)] at h ⊢
  obtain ⟨e, hlt⟩ := vin_nI ((ra_pe hR hp).1.resolve_left h)
  rw [e, show nI (v_boatO v p).toNatClampNeg + 1 = nI ((v_boatO v p).toNatClampNeg + 1) from nI_add _ 1]
  exact nI_pos (by omega)
set_option maxHeartbeats 4000000 in
theorem sp_join (hR : RA N P B Q v) (hN : N ≤ 600) (hX : EX P v) (x y : Int32) : STX N P B Q v (n_join v x y) (a_join v x y) := by
  rcases ef_join v x y with ⟨h1, h2⟩ | ⟨c0, c1, c2, c3, c4, ha, hn⟩ | ⟨c0, c1, c2, c3, c4, ha, hn⟩ | ⟨c0, c1, c2, c3, c4, c5, ha, hn⟩ | ⟨c0, c1, c2, c3, c4, c5, ha, hn⟩
  · exact STX.ref (q_join hR hN x y) hX h2 h1
  · refine STX.done (q_join hR hN x y) hn hX (Int32.le_refl _) ?_
    rw [ha]
    decide
  · refine STX.done (q_join hR hN x y) hn hX (Int32.le_refl _) ?_
    obtain ⟨p, rfl, hp⟩ := ra_isP' hR c0
    rw [ha]
    exact boat_nn hR hp c4
  · refine STX.done (q_join hR hN x y) hn hX (Int32.le_refl _) ?_
    rw [ha]
    decide
  · refine STX.done (q_join hR hN x y) hn hX (Int32.le_refl _) ?_
    obtain ⟨p, rfl, hp⟩ := ra_isP' hR c0
    rw [ha]
    exact boat_nn hR hp c5
set_option maxHeartbeats 4000000 in
theorem sp_open (hR : RA N P B Q v) (hN : N ≤ 600) (hX : EX P v) (x : Int32) : STX N P B Q v (n_open v x) (a_open v x) := by
  rcases ef_open v x with ⟨h1, h2⟩ | ⟨c0, c1, c2, ha, hn⟩
  · exact STX.ref (q_open hR hN x) hX h2 h1
  · refine STX.done (q_open hR hN x) hn ?_ (Int32.le_refl _) ?_
    · have hT := x_takeOut (plc := v_plc v) (car := v_car v) (bsk := v_bsk v) (dyL := v_dyL v) (rsn := v_rsn v) 20 (Nat.le_refl _)
      exact exc_open hX (ra_nP hR).2.2 (fun o ho => (hT o ho).2.2.1) (fun o ho => (hT o ho).2.2.2)
    · obtain ⟨n, e, hn2⟩ := (ra_sc hR).2.1
      rw [ha]
      show ¬ v_votes v + 1 - 1 < 0
      rw [Int32.add_sub_cancel, e]
      exact nI_pos (by omega)
theorem hand_to {plc car bnd : Nat → Int32} {i : Nat} (hi : i < 20) (y z : Int32) : f_X9_handTo plc car bnd (nI i) y z = (upd bnd i z, upd car i y, upd plc i 1) := by
  unfold f_X9_handTo
  rw [setCell_nI (by decide) hi, setCell_nI (by decide) hi, setCell_nI (by decide) hi]
set_option maxHeartbeats 4000000 in
theorem sp_give (hR : RA N P B Q v) (hN : N ≤ 600) (hX : EX P v) (x y z : Int32) : STX N P B Q v (n_give v x y z) (a_give v x y z) := by
  have h20 := (ra_nP hR).2.2
  rcases ef_give v x y z with ⟨h1, h2⟩ | ⟨c0, c1, c2, c3, c4, c5, c6, ha, hn⟩ | ⟨c0, c1, c2, c3, c4, c5, c6, c7, ha, hn⟩
  · exact STX.ref (q_give hR hN x y z) hX h2 h1
  all_goals
    obtain ⟨i, rfl, hi⟩ := ra_isP' hR c0
    obtain ⟨j, rfl, hj⟩ := ra_isP' hR c1
    rw [hand_to (by omega)] at hn ha
    refine STX.done (q_give hR hN _ _ z) hn ?_ (Int32.le_refl _) ?_
  · exact exc_give hX (by rw [x_plc (by omega)] at c6; exact c6) (ne_m2 (by omega))
  · rw [ha, x_carried, bitc_msk _ (by decide)]
    exact cnt_nn _
  · exact exc_give hX (by rw [x_plc (by omega)] at c7; exact c7) (ne_m2 (by omega))
  · rw [ha, x_carried, bitc_msk _ (by decide)]
    exact cnt_nn _
set_option maxHeartbeats 4000000 in
theorem sp_takeBack (hR : RA N P B Q v) (hN : N ≤ 600) (hX : EX P v) (x : Int32) : STX N P B Q v (n_takeBack v x) (a_takeBack v x) := by
  have h20 := (ra_nP hR).2.2
  rcases ef_takeBack v x with ⟨h1, h2⟩ | ⟨c0, c1, c2, c3, ha, hn⟩
  · exact STX.ref (q_takeBack hR hN x) hX h2 h1
  · obtain ⟨i, rfl, hi⟩ := ra_isP' hR c0
    rw [x_plc (by omega)] at c1
    have hp := ra_pe hR hi
    have e : f_X9_handBack (v_plc v) (v_car v) (v_bnd v) (nI i) = (upd (v_bnd v) i (-2), upd (v_car v) i (-2), upd (v_plc v) i 0) := by
      unfold f_X9_handBack
      rw [setCell_nI (by decide) (by omega), setCell_nI (by decide) (by omega), setCell_nI (by decide) (by omega)]
    rw [e] at hn
    refine STX.done (q_takeBack hR hN _) hn (exc_back hX c1 (hp.2.2.2.2.2.2.2.2.2.2.2.1 (Or.inr c1)).2.2) (Int32.le_refl _) ?_
    rw [ha, x_car (by omega)]
    exact vin_nn (hp.2.2.2.2.2.2.2.2.1 c1)
/-- what a stick that is laid was, and where it goes -/
theorem lay_done (hR : RA N P B Q v) {x y z : Int32} (c0 : f_X11_refusalToLay (v_nP v) (v_isOpen v) (v_baskets v) (v_seaO v) (v_plc v) (v_car v) x y z = 0) : ∃ i o b : Nat, x = nI i ∧ i < P ∧ y = nI o ∧ o < P ∧ z = nI b ∧ b < 4 ∧ z < v_baskets v ∧ tb (v_isOpen v) = true ∧ v_seaO v i = 0 ∧ ((v_plc v o = 0 ∧ i = o) ∨ (v_plc v o = 1 ∧ v_car v o = nI i)) := by
  have h20 := (ra_nP hR).2.2
  obtain ⟨r1, r2, r3, r4, r5⟩ := ref_0 c0
  obtain ⟨i, rfl, hi⟩ := ra_isP' hR r1
  obtain ⟨o, rfl, ho⟩ := ra_isP' hR r2
  obtain ⟨b, rfl, hb⟩ := bask_n r3
  unfold f_X11_refusalToLay at c0
  rw [r1, r2, r3] at c0
  simp only [cond_true] at c0
  rw [x_sea (by omega)] at c0
  have hs : v_seaO v i = 0 := by
    refine Classical.byContradiction fun q => ?_
    rw [beq_false_of_ne q] at c0
    exact absurd (show (-3 : Int32) = 0 from c0) (by decide)
  rw [hs] at c0
  have c1 : (bif f_X9_isHadBy (v_plc v) (v_car v) (nI i) (nI o) then (bif tb (v_isOpen v) then (if nI b < v_baskets v then (0 : Int32) else -5) else -5) else -4) = 0 := c0
  rw [r4, r5] at c1
  have c2 : (if nI b < v_baskets v then (0 : Int32) else -5) = 0 := c1
  have hb2 : nI b < v_baskets v := by
    refine Classical.byContradiction fun q => ?_
    rw [if_neg q] at c2
    exact absurd c2 (by decide)
  refine ⟨i, o, b, rfl, hi, rfl, ho, rfl, hb, hb2, r5, hs, ?_⟩
  unfold f_X9_isHadBy at r4
  rw [x_plc (by omega), x_car (by omega)] at r4
  by_cases q : v_plc v o = 0
  · rw [if_pos q] at r4
    by_cases q2 : nI i = nI o
    · exact Or.inl ⟨q, nI_inj6 (by omega) (by omega) q2⟩
    · rw [if_neg q2] at r4
      exact absurd r4 (by decide)
  · rw [if_neg q] at r4
    by_cases q1 : v_plc v o = 1
    · rw [if_pos q1] at r4
      by_cases q2 : v_car v o = nI i
      · exact Or.inr ⟨q1, q2⟩
      · rw [if_neg q2] at r4
        exact absurd r4 (by decide)
    · rw [if_neg q1] at r4
      exact absurd r4 (by decide)
theorem put_in {nums : Nat → Int32} {day lays logN x z : Int32} {seaO plc car bnd bsk dyL rsn logF : Nat → Int32} {o : Nat} (ho : o < 20) : f_X10_putIntoBasket nums day lays seaO plc car bnd bsk dyL rsn logF logN x (nI o) z = (f_X9_countIn (upd plc o 2) (upd bsk o z) z, upd bsk o z, upd dyL o day, lays + 1, (f_X5_add 30 logF logN day 3 (nI o) z).2, (f_X5_add 30 logF logN day 3 (nI o) z).1, upd plc o 2, upd rsn o (f_X10_reasonFor nums seaO plc car bnd x (nI o) z)) := by
  unfold f_X10_putIntoBasket f_X9_putInto
  rw [setCell_nI (by decide) ho, setCell_nI (by decide) ho, setCell_nI (by decide) ho, setCell_nI (by decide) ho]
set_option maxHeartbeats 4000000 in
theorem sp_lay (hR : RA N P B Q v) (hN : N ≤ 600) (hX : EX P v) (x y z : Int32) : STX N P B Q v (n_lay v x y z) (a_lay v x y z) := by
  have h20 := (ra_nP hR).2.2
  rcases ef_lay v x y z with ⟨h1, h2⟩ | ⟨c0, ha, hn⟩
  · exact STX.ref (q_lay hR hN x y z) hX h2 h1
  · obtain ⟨i, o, b, rfl, hi, rfl, ho, rfl, hb, hb2, -, -, h01⟩ := lay_done hR c0
    rw [put_in (by omega)] at hn ha
    refine STX.done (q_lay hR hN _ _ _) hn (exc_lay hX (by omega) (h01.elim (fun q => Or.inl q.1) (fun q => Or.inr q.1)) hb2 (fun q => ?_)) (Int32.le_refl _) ?_
    · rcases h01 with w | w
      · unfold f_X10_reasonFor
        rw [w.2, if_pos rfl]
      · exact absurd (w.2.symm.trans q) (ne_m2 (by omega))
    · rw [ha]
      unfold f_X9_countIn
      rw [x_maskIn, bitc_msk _ (by decide)]
      exact cnt_nn _
/-- a stick is contested: it is struck, or a fault is there -/
theorem judge_is (hR : RA N P B Q v) {i o : Nat} (hi : i < P) (ho : o < P) (blB blC : Nat → Int32) : ∃ J, f_X10_judge (v_nums v) (v_nP v) (v_day v) (v_votes v) (v_isOpen v) (v_fneed v) (v_faultO v) (v_backB v) (v_plc v) (v_bsk v) (v_rsn v) (v_pastF v) (v_pastN v) (v_logF v) (v_logN v) blB blC (nI i) (nI o) = J ∧ ((v_rsn v o = 0 ∧ J.1 = 0 ∧ J.2.2.2.1 = upd (v_faultO v) i (v_faultO v i + 1) ∧ J.2.2.2.2.2.2.2 = v_plc v) ∨ (¬ v_rsn v o = 0 ∧ J.1 = v_rsn v o ∧ J.2.2.2.1 = v_faultO v ∧ J.2.2.2.2.2.2.2 = upd (v_plc v) o 3)) := by
  have h20 := (ra_nP hR).2.2
  refine ⟨_, rfl, ?_⟩
  unfold f_X10_judge
  rw [x_rsn (by omega)]
  by_cases q : v_rsn v o = 0
  · rw [if_pos q]
    refine Or.inl ⟨q, rfl, ?_, rfl⟩
    show f_X2_addFault (v_faultO v) (nI i) = _
    unfold f_X2_addFault
    rw [x_faultO (by omega), setCell_nI (by decide) (by omega)]
  · rw [if_neg q]
    refine Or.inr ⟨q, rfl, rfl, ?_⟩
    show f_X9_strike (v_plc v) (nI o) = _
    unfold f_X9_strike
    rw [setCell_nI (by decide) (by omega)]
set_option maxHeartbeats 4000000 in
theorem sp_contest (hR : RA N P B Q v) (hN : N ≤ 600) (hX : EX P v) (blB blC : Nat → Int32) (x y : Int32) : STX N P B Q v (n_contest v blB blC x y) (a_contest v x y) := by
  have h20 := (ra_nP hR).2.2
  obtain ⟨mTaped, mErr, mPpl, mBts, mUs, mTape, mNum, mNam, mFst, mBnm, mW, mUn, mSl, mKp, hRR⟩ := id hR
  have e : (f_X11_contest (v_nums v) (v_nP v) (v_day v) (v_votes v) (v_isOpen v) (v_baskets v) (v_lays v) (v_recs v) (v_fneed v) (v_clos v) (v_boatO v) (v_seaO v) (v_faultO v) (v_daysO v) (v_backB v) (v_sailB v) (v_plc v) (v_car v) (v_bnd v) (v_bsk v) (v_dyL v) (v_rsn v) (v_pastF v) (v_pastN v) (v_logF v) (v_logN v) blB blC (v_hsN v) (v_hsX v) (v_hsF v) x y).1 = a_contest v x y := (ra_contest hRR hN x y).1.trans (ra_contest hRR hN x y).1.symm
  have main : ∀ T : StT, ∀ i o : Nat, i < P → o < P → v_plc v o = 2 → n_contest v blB blC x y = (T, v.2.1, rem_h v, v.2.2.2.1, v.2.2.2.2.1, v.2.2.2.2.2) → (v_baskets (T, v.2) = v_baskets v ∧ v_lays (T, v.2) = v_lays v ∧ v_car (T, v.2) = v_car v ∧ v_bnd (T, v.2) = v_bnd v ∧ v_bsk (T, v.2) = v_bsk v ∧ v_rsn (T, v.2) = v_rsn v) → ((v_rsn v o = 0 ∧ a_contest v x y = 0 ∧ v_faultO (T, v.2) = upd (v_faultO v) i (v_faultO v i + 1) ∧ v_plc (T, v.2) = v_plc v) ∨ (¬ v_rsn v o = 0 ∧ a_contest v x y = v_rsn v o ∧ v_faultO (T, v.2) = v_faultO v ∧ v_plc (T, v.2) = upd (v_plc v) o 3)) → STX N P B Q v (n_contest v blB blC x y) (a_contest v x y) := by
    intro T i o hi ho h2 hn hs hJ
    obtain ⟨s1, s2, s3, s4, s5, s6⟩ := hs
    rcases hJ with ⟨j1, j2, j3, j4⟩ | ⟨j1, j2, j3, j4⟩
    · refine STX.done (q_contest hR hN blB blC x y) hn ?_ ?_ (by rw [j2]; decide)
      · show EXc P (v_baskets (T, v.2)) (v_lays (T, v.2)) (v_plc (T, v.2)) (v_car (T, v.2)) (v_bnd (T, v.2)) (v_bsk (T, v.2)) (v_rsn (T, v.2))
        rw [s1, s2, s3, s4, s5, s6, j4]
        exact hX
      · show v_faultO v 0 ≤ v_faultO (T, v.2) 0
        rw [j3]
        by_cases q : i = 0
        · subst q
          rw [upd_eq]
          obtain ⟨e2, hlt⟩ := vin_nI (ra_pe hR (p := 0) (by omega)).2.2.1
          rw [e2, show nI (v_faultO v 0).toNatClampNeg + 1 = nI ((v_faultO v 0).toNatClampNeg + 1) from nI_add _ 1]
          exact nI_le (by omega) (by omega)
        · rw [upd_ne (fun z => q z.symm)]
          exact Int32.le_refl _
    · refine STX.done (q_contest hR hN blB blC x y) hn ?_ ?_ (by rw [j2]; exact vin_nn (ra_pe hR ho).2.2.2.2.2.2.2.2.2.2.1)
      · show EXc P (v_baskets (T, v.2)) (v_lays (T, v.2)) (v_plc (T, v.2)) (v_car (T, v.2)) (v_bnd (T, v.2)) (v_bsk (T, v.2)) (v_rsn (T, v.2))
        rw [s1, s2, s3, s4, s5, s6, j4]
        refine exc_strikes hX h20 (fun k hk => ?_)
        by_cases q : k = o
        · subst q
          exact Or.inr ⟨h2, j1, upd_eq⟩
        · exact Or.inl (upd_ne q)
      · show v_faultO v 0 ≤ v_faultO (T, v.2) 0
        rw [j3]
        exact Int32.le_refl _
  rcases ef_contest v blB blC x y with ⟨h1, h2⟩ | ⟨c0, c1, c2, c3, c4, c5, ha, hn⟩ | ⟨c0, c1, c2, c3, c4, c5, c6, ha, hn⟩
  · exact STX.ref (q_contest hR hN blB blC x y) hX h2 (by rw [← e]; exact h1)
  all_goals
    rw [e] at ha
    obtain ⟨i, rfl, hi⟩ := ra_isP' hR c0
    obtain ⟨o, rfl, ho⟩ := ra_isP' hR c1
    rw [x_plc (by omega)] at c3
    obtain ⟨J, eJ, hJ⟩ := judge_is hR hi ho blB blC
    rw [eJ] at hn ha
    exact main _ i o hi ho c3 hn ⟨rfl, rfl, rfl, rfl, rfl, rfl⟩ (hJ.elim (fun q => Or.inl ⟨q.1, ha.trans q.2.1, q.2.2.1, q.2.2.2⟩) (fun q => Or.inr ⟨q.1, ha.trans q.2.1, q.2.2.1, q.2.2.2⟩))
set_option maxHeartbeats 4000000 in
theorem sp_close (hR : RA N P B Q v) (hN : N ≤ 600) (hX : EX P v) (blB blC : Nat → Int32) : STX N P B Q v (n_close v blB blC) (a_close v) := by
  obtain ⟨mTaped, mErr, mPpl, mBts, mUs, mTape, mNum, mNam, mFst, mBnm, mW, mUn, mSl, mKp, hRR⟩ := id hR
  have e : (f_X11_close (v_nums v) (v_nP v) (v_day v) (v_votes v) (v_isOpen v) (v_baskets v) (v_lays v) (v_recs v) (v_fneed v) (v_clos v) (v_boatO v) (v_seaO v) (v_faultO v) (v_daysO v) (v_backB v) (v_sailB v) (v_plc v) (v_car v) (v_bnd v) (v_bsk v) (v_dyL v) (v_rsn v) (v_pastF v) (v_pastN v) (v_logF v) (v_logN v) blB blC (v_hsN v) (v_hsX v) (v_hsF v)).1 = a_close v := (ra_close hRR hN).1.trans (ra_close hRR hN).1.symm
  rcases ef_close v blB blC with ⟨h1, h2⟩ | ⟨c0, ha, hn⟩
  · exact STX.ref (q_close hR hN blB blC) hX h2 (by rw [← e]; exact h1)
  · refine STX.done (q_close hR hN blB blC) hn hX (Int32.le_refl _) ?_
    rw [← e, ha]
    show ¬ f_X9_countAt (v_plc v) 2 < 0
    rw [x_countAt]
    exact cnt_nn _
set_option maxHeartbeats 4000000 in
theorem sp_recount (hR : RA N P B Q v) (hN : N ≤ 600) (hX : EX P v) (blB blC : Nat → Int32) : STX N P B Q v (n_recount v blB blC) (a_recount v) := by
  obtain ⟨mTaped, mErr, mPpl, mBts, mUs, mTape, mNum, mNam, mFst, mBnm, mW, mUn, mSl, mKp, hRR⟩ := id hR
  have e : (f_X11_recount (v_nums v) (v_nP v) (v_day v) (v_votes v) (v_isOpen v) (v_baskets v) (v_lays v) (v_recs v) (v_fneed v) (v_clos v) (v_boatO v) (v_seaO v) (v_faultO v) (v_daysO v) (v_backB v) (v_sailB v) (v_plc v) (v_car v) (v_bnd v) (v_bsk v) (v_dyL v) (v_rsn v) (v_pastF v) (v_pastN v) (v_logF v) (v_logN v) blB blC (v_hsN v) (v_hsX v) (v_hsF v)).1 = a_recount v := (ra_recount hRR hN).1.trans (ra_recount hRR hN).1.symm
  rcases ef_recount v blB blC with ⟨h1, h2⟩ | ⟨c0, c1, ha, hn⟩
  · exact STX.ref (q_recount hR hN blB blC) hX h2 (by rw [← e]; exact h1)
  · have hv := vs_wrong (v_day v) (v_rsn v) (v_logF v) (v_logN v) (v_plc v) 20 (Nat.le_refl _)
    refine STX.done (q_recount hR hN blB blC) hn ?_ (Int32.le_refl _) ?_
    · refine exc_strikes (plc := v_plc v) (plc' := (L_X10_strikeAllWrong_9 (v_day v) (v_plc v) (v_rsn v) (v_logF v) (v_logN v) 20).2.2.2) hX (ra_nP hR).2.2 (fun k hk => ?_)
      rw [hv]
      show (VSt (fun o => decide (v_plc v o = 2) && !decide (v_rsn v o = 0)) (v_day v) (v_rsn v) (v_logF v) (v_logN v) (v_plc v) 20).2.2 k = v_plc v k ∨ _ ∧ _ ∧ (VSt (fun o => decide (v_plc v o = 2) && !decide (v_rsn v o = 0)) (v_day v) (v_rsn v) (v_logF v) (v_logN v) (v_plc v) 20).2.2 k = 3
      rw [vs_plc _ _ _ _ _ _ 20 (Nat.le_refl _) k]
      by_cases q : k < 20 ∧ (decide (v_plc v k = 2) && !decide (v_rsn v k = 0)) = true
      · rw [if_pos q]
        have q2 := q.2
        rw [Bool.and_eq_true, decide_eq_true_eq, Bool.not_eq_true', decide_eq_false_iff_not] at q2
        exact Or.inr ⟨q2.1, q2.2, rfl⟩
      · rw [if_neg q]
        exact Or.inl rfl
    · rw [← e, ha]
      show ¬ (L_X10_strikeAllWrong_9 (v_day v) (v_plc v) (v_rsn v) (v_logF v) (v_logN v) 20).1 < 0
      rw [hv]
      exact cnt_nn _
theorem home_today (day : Int32) (boatO seaO backB logF : Nat → Int32) (logN : Int32) : ∀ n, n ≤ 6 → ∃ k, (L_X10_bringHomeTodays_4 day boatO seaO backB logF logN n).1 = nI k ∧ k ≤ 20 * n := by
  refine iter_inv (I := fun n (s : Int32 × (Nat → Int32) × (Nat → Int32) × Int32 × (Nat → Int32)) => ∃ k, s.1 = nI k ∧ k ≤ 20 * n) (N := 6) ⟨0, rfl, Nat.zero_le _⟩ (fun n s hn hs => ?_)
  obtain ⟨k, e, hk⟩ := hs
  cases f_X2_isOut s.2.1 (nI n)
  · exact ⟨k, e, by omega⟩
  · simp only [cond_true]
    by_cases q : f_X2_backOf s.2.1 (nI n) = day
    · rw [if_pos q]
      refine ⟨k + cntB (fun p => decide (boatO p = nI n) && !decide (s.2.2.2.2 p = 0)) 20, ?_, by have := cntB_le (fun p => decide (boatO p = nI n) && !decide (s.2.2.2.2 p = 0)) 20; omega⟩
      show s.1 + (f_X2_arrive boatO s.2.2.2.2 s.2.1 (nI n)).1 = _
      rw [x_arrive hn rfl, e]
      show nI k + f_X2_aboard boatO s.2.2.2.2 (nI n) = _
      rw [aboard_n, nI_add]
    · rw [if_neg q]
      exact ⟨k, e, by omega⟩
theorem home_days (day : Int32) (boatO seaO daysO backB logF : Nat → Int32) (logN : Int32) : ∀ n, n ≤ 100 → ∃ k, (L_X10_letDaysPass_4 day boatO seaO daysO backB logF logN n).1 = nI k ∧ k ≤ 120 * n := by
  refine iter_inv (I := fun n (s : Int32 × (Nat → Int32) × Int32 × (Nat → Int32) × (Nat → Int32) × Int32 × (Nat → Int32)) => ∃ k, s.1 = nI k ∧ k ≤ 120 * n) (N := 100) ⟨0, rfl, Nat.zero_le _⟩ (fun n s hn hs => ?_)
  obtain ⟨k, e, hk⟩ := hs
  obtain ⟨k2, e2, hk2⟩ := home_today (s.2.2.1 + 1) boatO s.2.2.2.2.2.2 s.2.1 s.2.2.2.2.1 s.2.2.2.2.2.1 6 (Nat.le_refl _)
  refine ⟨k + k2, ?_, by omega⟩
  show s.1 + (L_X10_bringHomeTodays_4 (s.2.2.1 + 1) boatO s.2.2.2.2.2.2 s.2.1 s.2.2.2.2.1 s.2.2.2.2.2.1 6).1 = _
  rw [e, e2, nI_add]
set_option maxHeartbeats 4000000 in
theorem sp_pass (hR : RA N P B Q v) (hN : N ≤ 600) (hX : EX P v) (x : Int32) : STX N P B Q v (n_pass v x) (a_pass v x) := by
  rcases ef_pass v x with ⟨h1, h2⟩ | ⟨c0, ha, hn⟩
  · exact STX.ref (q_pass hR hN x) hX h2 h1
  · refine STX.done (q_pass hR hN x) hn hX (Int32.le_refl _) ?_
    obtain ⟨d, rfl, hd1, hd2⟩ := days_of c0
    rw [ha]
    show ¬ (L_X10_letDaysPass_4 (v_day v) (v_boatO v) (v_seaO v) (v_daysO v) (v_backB v) (v_logF v) (v_logN v) (nI d).toNatClampNeg).1 < 0
    rw [nI_clamp (by omega)]
    obtain ⟨k, e, hk⟩ := home_days (v_day v) (v_boatO v) (v_seaO v) (v_daysO v) (v_backB v) (v_logF v) (v_logN v) d (by omega)
    rw [e]
    exact nI_pos (by omega)
theorem act_ok (hR : RA N P B Q v) (hN : N ≤ 600) (hX : EX P v) {u : VT} {r : Int32} (h : ACT v u r) : STX N P B Q v u r := by
  rcases h with ⟨x, y, rfl, rfl⟩ | ⟨x, y, rfl, rfl⟩ | ⟨x, rfl, rfl⟩ | ⟨x, y, rfl, rfl⟩ | ⟨x, rfl, rfl⟩ | ⟨x, y, z, rfl, rfl⟩ | ⟨x, rfl, rfl⟩ | ⟨x, y, z, rfl, rfl⟩ | ⟨b, c, x, y, rfl, rfl⟩ | ⟨b, c, rfl, rfl⟩ | ⟨b, c, rfl, rfl⟩ | ⟨x, rfl, rfl⟩
  · exact sp_sail hR hN hX x y
  · exact sp_delay hR hN hX x y
  · exact sp_comeHome hR hN hX x
  · exact sp_join hR hN hX x y
  · exact sp_open hR hN hX x
  · exact sp_give hR hN hX x y z
  · exact sp_takeBack hR hN hX x
  · exact sp_lay hR hN hX x y z
  · exact sp_contest hR hN hX b c x y
  · exact sp_close hR hN hX b c
  · exact sp_recount hR hN hX b c
  · exact sp_pass hR hN hX x
end ACT
