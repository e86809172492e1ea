/-! UNDO, KEEP, RESTORE: the states that can come back -/
def bb_h (v : VT) : Bool × Int32 × Int32 × StT := f_X3_bringBack (v_hsN v) (v_hsX v) (v_hsF v) v.1
set_option maxHeartbeats 4000000 in
theorem ef_undo (v : VT) {a b : Int32} {t : StT} (h : bb_h v = (true, a, b, t)) : a_undo v = a ∧ n_undo v = (t, v.2.1, (a, b, v_hsF v), v.2.2.2.1, v.2.2.2.2.1, v.2.2.2.2.2) := by
  have hS : (S_X11_undo_8 (v_day v) (v_votes v) (v_isOpen v) (v_baskets v) (v_lays v) (v_recs v) (v_fneed v) (v_clos v) (v_boatO v) (v_seaO v) (v_faultO v) (v_daysO v) (v_backB v) (v_sailB v) (v_plc v) (v_car v) (v_bnd v) (v_bsk v) (v_dyL v) (v_rsn v) (v_pastF v) (v_pastN v) (v_logF v) (v_logN v) (v_hsN v) (v_hsX v) (v_hsF v)) = (true, a, b, t) := h
  have hf : (f_X11_undo (v_day v) (v_votes v) (v_isOpen v) (v_baskets v) (v_lays v) (v_recs v) (v_fneed v) (v_clos v) (v_boatO v) (v_seaO v) (v_faultO v) (v_daysO v) (v_backB v) (v_sailB v) (v_plc v) (v_car v) (v_bnd v) (v_bsk v) (v_dyL v) (v_rsn v) (v_pastF v) (v_pastN v) (v_logF v) (v_logN v) (v_hsN v) (v_hsX v) (v_hsF v)) = (a, t.2.2.2.2.2.2.2.2.2.2.2.2.1, t.2.2.2.1, t.2.2.2.2.2.2.2.2.2.2.2.2.2.2.2.2.1, t.2.2.2.2.2.2.2.2.1, t.2.2.2.2.2.2.2.2.2.2.2.2.2.2.2.2.2.1, t.2.2.2.2.2.2.2.2.2.2.2.2.2.2.2.1, t.2.2.2.2.2.2.2.1, t.1, t.2.2.2.2.2.2.2.2.2.2.2.1, t.2.2.2.2.2.2.2.2.2.2.2.2.2.2.2.2.2.2.1, t.2.2.2.2.2.2.2.2.2.2.1, t.2.2.2.2.2.2.1, a, b, t.2.2.1, t.2.2.2.2.1, t.2.2.2.2.2.2.2.2.2.2.2.2.2.2.2.2.2.2.2.2.2.2.1, t.2.2.2.2.2.2.2.2.2.2.2.2.2.2.2.2.2.2.2.2.2.2.2, t.2.2.2.2.2.2.2.2.2.2.2.2.2.2.2.2.2.2.2.2.1, t.2.2.2.2.2.2.2.2.2.2.2.2.2.2.2.2.2.2.2.2.2.1, t.2.2.2.2.2.2.2.2.2.2.2.2.2.2.1, t.2.2.2.2.2.1, t.2.2.2.2.2.2.2.2.2.2.2.2.2.2.2.2.2.2.2.1, t.2.2.2.2.2.2.2.2.2.2.2.2.2.1, t.2.2.2.2.2.2.2.2.2.1, t.2.1) := by
    refine (cd_t (show (S_X11_undo_8 (v_day v) (v_votes v) (v_isOpen v) (v_baskets v) (v_lays v) (v_recs v) (v_fneed v) (v_clos v) (v_boatO v) (v_seaO v) (v_faultO v) (v_daysO v) (v_backB v) (v_sailB v) (v_plc v) (v_car v) (v_bnd v) (v_bsk v) (v_dyL v) (v_rsn v) (v_pastF v) (v_pastN v) (v_logF v) (v_logN v) (v_hsN v) (v_hsX v) (v_hsF v)).1 = true by rw [hS])).trans ?_
    rw [hS] <;> rfl
  refine ⟨?_, ?_⟩
  · unfold a_undo
    rw [hf] <;> rfl
  · unfold n_undo
    rw [hf] <;> rfl
/-- the history of v ends in the states L, the latest first -/
def HL (v : VT) (L : List StT) : Prop := ∃ s x : Nat, v_hsN v = nI s ∧ v_hsX v = nI x ∧ L.length ≤ s ∧ s ≤ 8 ∧ x < 8 ∧ ∀ i, i < L.length → L[i]? = some (v_hsF v ((x + 7 - i) % 8))
theorem HL.nil {N P B Q : Nat} {v : VT} (hR : RA N P B Q v) : HL v [] := by
  obtain ⟨mTaped, mErr, mPpl, mBts, mUs, mTape, mNum, mNam, mFst, mBnm, mW, mUn, mSl, mKp, hR⟩ := hR
  obtain ⟨s, x, h1, -, h3, h4, h5, -⟩ := hR.2.2.1
  exact ⟨s, x, h1, h3, Nat.zero_le _, h4, h5, fun i hi => absurd hi (Nat.not_lt_zero i)⟩
theorem HL.same {v u : VT} {L : List StT} (h : HL v L) (e : u.2.2.1 = v.2.2.1) : HL u L := by
  obtain ⟨t, s, k, r⟩ := v
  obtain ⟨t', s', k', r'⟩ := u
  cases e
  exact h
theorem HL.push {v u : VT} {L : List StT} (h : HL v L) (e : u.2.2.1 = rem_h v) (hL : L.length ≤ 7) : HL u (v.1 :: L) := by
  obtain ⟨s, x, h1, h2, h3, h4, h5, h6⟩ := h
  have er : rem_h v = ((if 8 < nI s + 1 then 8 else nI s + 1), (if 8 ≤ nI x + 1 then 0 else nI x + 1), updS (v_hsF v) x v.1) := by
    unfold rem_h f_X3_remember
    rw [h1, h2, show f_X11_isIn (nI x) 8 = true from isIn_nI h5 (by decide), cond_true, nI_clamp (by omega)]
  rw [er] at e
  have eN : v_hsN u = (if 8 < nI s + 1 then 8 else nI s + 1) := congrArg (fun z => z.1) e
  have eX : v_hsX u = (if 8 ≤ nI x + 1 then 0 else nI x + 1) := congrArg (fun z => z.2.1) e
  have eF : v_hsF u = updS (v_hsF v) x v.1 := congrArg (fun z => z.2.2) e
  have e1 : (if 8 < nI s + 1 then (8 : Int32) else nI s + 1) = nI (min (s + 1) 8) := by
    rw [show nI s + 1 = nI (s + 1) from nI_add s 1]
    rcases Nat.lt_or_ge 8 (s + 1) with q | q
    · rw [if_pos (show (8 : Int32) < nI (s + 1) from (nI_ltI (a := 8) (by omega) (by omega)).mpr q), show min (s + 1) 8 = 8 by omega]
      rfl
    · rw [if_neg (show ¬ (8 : Int32) < nI (s + 1) from fun z => absurd ((nI_ltI (a := 8) (by omega) (by omega)).mp z) (by omega)), show min (s + 1) 8 = s + 1 by omega]
  have e2 : (if 8 ≤ nI x + 1 then (0 : Int32) else nI x + 1) = nI ((x + 1) % 8) := by
    rw [show nI x + 1 = nI (x + 1) from nI_add x 1]
    rcases Nat.lt_or_ge x 7 with q | q
    · rw [if_neg (show ¬ (8 : Int32) ≤ nI (x + 1) from fun z => absurd ((nI_leI (a := 8) (by omega) (by omega)).mp z) (by omega)), Nat.mod_eq_of_lt (by omega)]
    · have : x = 7 := by omega
      subst this
      rfl
  refine ⟨min (s + 1) 8, (x + 1) % 8, eN.trans e1, eX.trans e2, ?_, Nat.min_le_right _ _, Nat.mod_lt _ (by decide), fun i hi => ?_⟩
  · rw [List.length_cons]
    omega
  · rw [eF]
    rw [List.length_cons] at hi
    rcases Nat.eq_zero_or_pos i with q | q
    · subst q
      rw [show ((x + 1) % 8 + 7 - 0) % 8 = x by omega, updS_eq]
      rfl
    · obtain ⟨j, rfl⟩ : ∃ j, i = j + 1 := ⟨i - 1, by omega⟩
      rw [List.getElem?_cons_succ, show ((x + 1) % 8 + 7 - (j + 1)) % 8 = (x + 7 - j) % 8 by omega, updS_ne (by omega)]
      exact h6 j (by omega)
/-- undo brings the latest one back -/
theorem HL.pop {v : VT} {t : StT} {L : List StT} (h : HL v (t :: L)) : ¬ a_undo v < 0 ∧ (n_undo v).1 = t ∧ HL (n_undo v) L ∧ (n_undo v).2.1 = v.2.1 ∧ (n_undo v).2.2.2 = v.2.2.2 := by
  obtain ⟨s, x, h1, h2, h3, h4, h5, h6⟩ := h
  rw [List.length_cons] at h3
  have hl : h_latest (nI x) = nI ((x + 7) % 8) := by
    unfold h_latest
    rcases Nat.eq_zero_or_pos x with q | q
    · subst q
      rfl
    · rw [if_neg (show ¬ nI x ≤ (0 : Int32) from fun z => absurd ((nI_leI (b := 0) (by omega) (by omega)).mp z) (by omega)), show nI x - 1 = nI (x - 1) from nI_sub (b := 1) (by omega), show (x + 7) % 8 = x - 1 by omega]
  have hb : bb_h v = (true, nI (s - 1), nI ((x + 7) % 8), v_hsF v ((x + 7) % 8)) := by
    unfold bb_h f_X3_bringBack
    rw [h1, h2, hl, if_neg (show ¬ nI s < (1 : Int32) from fun z => absurd ((nI_ltI (b := 1) (by omega) (by omega)).mp z) (by omega)), show f_X11_isIn (nI ((x + 7) % 8)) 8 = true from isIn_nI (Nat.mod_lt _ (by decide)) (by decide), cond_true, nI_clamp (by omega), show nI s - 1 = nI (s - 1) from nI_sub (b := 1) (by omega)]
  obtain ⟨ea, en⟩ := ef_undo v hb
  have e0 := h6 0 (by rw [List.length_cons]; omega)
  rw [Nat.sub_zero, List.getElem?_cons_zero] at e0
  rw [ea, en]
  refine ⟨nI_pos (by omega), (Option.some.inj e0).symm, ⟨s - 1, (x + 7) % 8, rfl, rfl, by omega, by omega, Nat.mod_lt _ (by decide), fun i hi => ?_⟩, rfl, rfl⟩
  have e1 := h6 (i + 1) (by rw [List.length_cons]; omega)
  rw [List.getElem?_cons_succ] at e1
  rw [e1]
  show some (v_hsF v ((x + 7 - (i + 1)) % 8)) = some (v_hsF v (((x + 7) % 8 + 7 - i) % 8))
  rw [show (x + 7 - (i + 1)) % 8 = ((x + 7) % 8 + 7 - i) % 8 by omega]
/-- the state as it stands is kept in slot 0 -/
theorem ef_keep (v : VT) : a_keep v 0 = v_day v ∧ (n_keep v 0).1 = v.1 ∧ (n_keep v 0).2.1 = v.2.1 ∧ (n_keep v 0).2.2.1 = v.2.2.1 ∧ v_kpF (n_keep v 0) 0 = v.1 ∧ ¬ v_kpZ (n_keep v 0) 0 = 0 := by
  have hs : f_X11_isSlot 0 = true := by
    unfold f_X11_isSlot
    rw [show f_X11_isIn 0 2 = true by decide]
    rfl
  unfold a_keep n_keep f_X11_keep
  rw [hs]
  refine ⟨rfl, rfl, rfl, rfl, (show updS (v_kpF v) 0 v.1 0 = v.1 from updS_eq), ?_⟩
  show ¬ upd (v_kpZ v) 0 (vp_nar .boolean 1) 0 = 0
  rw [upd_eq]
  decide
theorem ef_back (v : VT) (hz : ¬ v_kpZ v 0 = 0) : a_restore v 0 = (v_kpF v 0).1 ∧ (n_restore v 0).1 = v_kpF v 0 ∧ (n_restore v 0).2.1 = v.2.1 ∧ (n_restore v 0).2.2.1 = rem_h v ∧ (n_restore v 0).2.2.2 = v.2.2.2 := by
  have hs : f_X11_isSlot 0 = true := by
    unfold f_X11_isSlot
    rw [show f_X11_isIn 0 2 = true by decide]
    rfl
  obtain ⟨h1, h2⟩ := lf_restore_1 v 0 hs hz
  rw [h1, h2]
  exact ⟨rfl, rfl, rfl, rfl, rfl⟩
