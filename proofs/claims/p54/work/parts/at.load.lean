/-! THE SETUP TEXT READ AGAIN: the village that stands in it -/
/-- a village of the law: numbers m, people's letters c, boats' letters cb, whose boat o -/
def VIL (P B : Nat) (m c cb o : Nat → Nat) : Prop := NB m ∧ (2 ≤ P ∧ P < 20) ∧ B < 6 ∧ (∀ k, k < P → 1 ≤ c k ∧ c k ≤ 26) ∧ (∀ a b, a < P → b < P → c a = c b → a = b) ∧ (∀ b, b < B → 1 ≤ cb b ∧ cb b ≤ 26) ∧ (∀ a b, a < B → b < B → cb a = cb b → a = b) ∧ ∀ k, k < P → o k ≤ B
def suT (P B : Nat) (m c cb o : Nat → Nat) : List Nat := nlL (fun i => numL (nI (m i))) (btL cb (peT c cb o P 0) B 0)
theorem NB.le {m : Nat → Nat} (h : NB m) : ∀ i, i < 10 → m i ≤ 100 := fun i hi => by
  obtain ⟨⟨m0a, m0b⟩, ⟨m1, m2, m3, m4⟩, m5, ⟨m6a, m6b⟩, m7, m8, m9⟩ := h
  match i, hi with
  | 0, _ => omega
  | 1, _ => omega
  | 2, _ => omega
  | 3, _ => omega
  | 4, _ => omega
  | 5, _ => omega
  | 6, _ => omega
  | 7, _ => omega
  | 8, _ => omega
  | 9, _ => omega
theorem rt_ok {T : List Nat} {tp : Nat → Int32} (hT : TPT T tp) {P B : Nat} {m c cb o : Nat → Nat} (hV : VIL P B m c cb o) (eT : T = suT P B m c cb o) (dn dbN dpN dfB : Nat → Int32) : f_X4_readTape tp (nI T.length) dn dbN dpN dfB = (-2, lnS cb dbN B, fbS o dfB P, nI B, nI P, dnS m dn, lnS c dpN P, nI T.length, 0, nI T.length) := by
  obtain ⟨hm, hP, hB, hc, hci, hcb, hbi, ho⟩ := hV
  obtain ⟨R, hR⟩ : ∃ R, peT c cb o P 0 = kwN 8 ++ ([32] ++ R) := by
    obtain ⟨p, rfl⟩ : ∃ p, P = p + 1 := ⟨P - 1, by omega⟩
    exact ⟨_, rfl⟩
  have h0 : SFX T (nlL (fun i => numL (nI (m i))) (btL cb (peT c cb o P 0) B 0)) := by
    have h := SFX.rf T
    rw [eT] at h ⊢
    exact h
  have s13 : S_X4_readTape_13 tp (nI T.length) = cu T tp (nlL (fun i => numL (nI (m i))) (btL cb (peT c cb o P 0) B 0)) := by
    have e : ps T (nlL (fun i => numL (nI (m i))) (btL cb (peT c cb o P 0) B 0)) = 0 := by
      unfold ps
      rw [eT]
      exact Nat.sub_self _
    unfold S_X4_readTape_13 cu
    rw [e]
    rfl
  have r1 := rn_ok hT (w := fun i => numL (nI (m i))) (m := m) (fun i hi => num_ok100 _ (hm.le i hi)) hm h0 dn
  have h1 : SFX T (btL cb (peT c cb o P 0) B 0) := by
    obtain ⟨pre, e⟩ := h0
    exact ⟨pre ++ nlL (fun i => numL (nI (m i))) [], by
      rw [e, List.append_assoc]
      refine congrArg (HAppend.hAppend pre) ?_
      generalize btL cb (peT c cb o P 0) B 0 = X
      have ww : ∀ w : Nat → List Nat, nlL w X = nlL w [] ++ X := fun w => by
        unfold nlL
        simp only [List.append_assoc, List.cons_append, List.nil_append]
      exact ww _⟩
  have s17 : S_X4_readTape_17 tp (nI T.length) dn = (true, dnS m dn, cu T tp (btL cb (peT c cb o P 0) B 0)) := by
    unfold S_X4_readTape_17
    rw [s13]
    exact r1
  rw [hR] at s17 h1
  have r2 := bts_ok hT hB hcb hbi (R := R) h1 dbN
  have s24 : S_X4_readTape_24 tp (nI T.length) dn dbN = (true, lnS cb dbN B, nI B, cu T tp (kwN 8 ++ ([32] ++ R))) := by
    unfold S_X4_readTape_24
    rw [s17]
    exact r2
  have h2 : SFX T (peT c cb o P 0) := by
    have k : ∀ mm kk X, SFX T (btL cb X mm kk) → SFX T X := fun mm => by
      induction mm with
      | zero => exact fun _ _ h => h
      | succ mm ih =>
        intro kk X h
        have h' : SFX T (kwN 7 ++ ([32] ++ ([96 + cb kk] ++ (59 :: btL cb X mm (kk + 1))))) := h
        exact ih _ _ ((((h'.of (A := kwN 7)).of (A := [32])).of (A := [96 + cb kk])).of (A := [59]))
    rw [hR]
    exact k _ _ _ h1
  have r3 := pes_ok hT hP hB hc hci hcb hbi ho (bn := lnS cb dbN B) (fun b hb => lnS_at cb dbN B b hb) h2 dpN dfB
  rw [hR] at r3
  have s31 : S_X4_readTape_31 tp (nI T.length) dn dbN dpN dfB = (true, fbS o dfB P, nI P, lnS c dpN P, cu T tp []) := by
    unfold S_X4_readTape_31
    rw [s24]
    exact r3
  have ee := adv_e hT
  generalize cu T tp [] = t at s31 ee
  subst ee
  unfold f_X4_readTape
  rw [s17, s24, s31]
  rfl
/-- the village after load() -/
def LDV (P B : Nat) (m c cb o : Nat → Nat) (u : VT) : Prop := v_nP u = nI P ∧ v_nB u = nI B ∧ (∀ i, i < 10 → v_nums u i = nI (m i)) ∧ (∀ b, b < B → v_bNames u b = nI (cb b * 2 ^ 25)) ∧ (∀ p, p < P → v_pNames u p = nI (c p * 2 ^ 25)) ∧ (∀ p, p < P → v_boatO u p = obS o p) ∧ v_err u = -2 ∧ v_tl u = 0 ∧ v_votes u = 0 ∧ v_lays u = 0 ∧ ∀ p, p < 20 → v_plc u p = 0 ∧ v_car u p = -2 ∧ v_bnd u p = -2 ∧ v_rsn u p = 0
set_option maxHeartbeats 4000000 in
theorem ld_ok {v : VT} {T : List Nat} (hT : TPT T (v_tp v)) (hl : v_tl v = nI T.length) {P B : Nat} {m c cb o : Nat → Nat} (hV : VIL P B m c cb o) (eT : T = suT P B m c cb o) (dn dbN dpN dfB : Nat → Int32) : a_load (r_load v dn dbN dpN dfB) = nI P ∧ LDV P B m c cb o (n_load (r_load v dn dbN dpN dfB) v) := by
  have hP := hV.2.1
  have e5 := rt_ok hT hV eT dn dbN dpN dfB
  rw [← hl] at e5
  have s5 : S_X11_load_5 (v_tp v) (v_tl v) dn dbN dpN dfB = (-2, lnS cb dbN B, fbS o dfB P, nI B, nI P, dnS m dn, lnS c dpN P, v_tl v, 0, v_tl v) := e5
  have s16 : S_X11_load_16 (v_tl v) = 0 := by
    unfold S_X11_load_16 f_X1_cutTo
    rw [hl, if_neg (by decide), if_neg (nI_pos (by have := hT.1; omega))]
  unfold r_load f_X11_load S_X11_load_41
  rw [s5, s16, if_pos rfl]
  dsimp only
  refine ⟨rfl, rfl, rfl, fun i hi => dnS_at m dn hi, fun b hb => lnS_at cb dbN B b hb, fun p hp => lnS_at c dpN P p hp, fun p hp => ?_, rfl, rfl, rfl, rfl, fun p hp => ⟨fillRow_at (n := 20) (by decide) hp, fillRow_at (n := 20) (by decide) hp, fillRow_at (n := 20) (by decide) hp, fillRow_at (n := 20) (by decide) hp⟩⟩
  refine (beginBoat (P := P) rfl (by omega) (by omega)).trans ((if_pos hp).trans ?_)
  exact fbS_at o dfB P p hp
set_option maxHeartbeats 4000000 in
theorem q_load {N P B Q : Nat} {v : VT} (hR : RA N P B Q v) (dnums dbNames dpNames dfBoats : Nat → Int32) : ∃ P B Q, RA (N + 1) P B Q (n_load (r_load v dnums dbNames dpNames dfBoats) v) := by
  obtain ⟨mTaped, mErr, mPpl, mBts, mUs, mTape, mNum, mNam, mFst, mBnm, mW, mUn, mSl, mKp, hR⟩ := hR
  obtain ⟨-, P', B', Q', h2⟩ := ra_load (dnums := dnums) (dbNames := dbNames) (dpNames := dpNames) (dfBoats := dfBoats) (mWd := 0) (mVal := 0) (mLet := 0) (mnNum := z0) (mnNam := z0) (mnBo := z0) (mnBn := z0) hR
  refine ⟨P', B', Q', ?_⟩
  unfold r_load
  generalize f_X11_load (v_tp v) (v_tl v) dnums dbNames dpNames dfBoats (v_nums v) (v_bNames v) (v_pNames v) (v_fBoats v) (v_nB v) (v_nP v) (v_day v) (v_votes v) (v_isOpen v) (v_baskets v) (v_lays v) (v_recs v) (v_fneed v) (v_clos v) (v_boatO v) (v_seaO v) (v_faultO v) (v_daysO v) (v_backB v) (v_sailB v) (v_plc v) (v_car v) (v_bnd v) (v_bsk v) (v_dyL v) (v_rsn v) (v_pastN v) (v_logN v) (v_hsN v) (v_hsX v) (v_hsF v) (v_kpZ v) = r at h2 ⊢
  exact ⟨_, _, _, _, _, _, _, _, _, _, _, _, _, _, h2⟩
theorem ld_ex {P B : Nat} {m c cb o : Nat → Nat} {u : VT} (h : LDV P B m c cb o u) (hP : P < 20) : EX P u := by
  obtain ⟨-, -, -, -, -, -, -, -, -, hl, h0⟩ := h
  refine ⟨fun p hp => ?_, ?_⟩
  · obtain ⟨p0, p1, p2, p3⟩ := h0 p (by omega)
    refine ⟨fun _ => ⟨p2, p3⟩, fun z => ?_, fun z => ?_⟩
    · rw [p0] at z
      exact absurd z (by decide)
    · rw [p0] at z
      exact absurd z (by decide)
  · rw [hl, cntB_no (fun i hi => ?_)]
    · rfl
    · show (decide (v_plc u i = 2) || decide (v_plc u i = 3)) = false
      rw [(h0 i hi).1]
      rfl
theorem ld_ra {N P0 B0 Q0 : Nat} {v : VT} (hR : RA N P0 B0 Q0 v) {T : List Nat} (hT : TPT T (v_tp v)) (hl : v_tl v = nI T.length) {P B : Nat} {m c cb o : Nat → Nat} (hV : VIL P B m c cb o) (eT : T = suT P B m c cb o) (dn dbN dpN dfB : Nat → Int32) : ∃ Q, RA (N + 1) P B Q (n_load (r_load v dn dbN dpN dfB) v) := by
  obtain ⟨P', B', Q', h⟩ := q_load hR dn dbN dpN dfB
  obtain ⟨-, h1, h2, -⟩ := ld_ok hT hl hV eT dn dbN dpN dfB
  have hP := hV.2.1
  have hB := hV.2.2.1
  generalize n_load (r_load v dn dbN dpN dfB) v = u at h h1 h2 ⊢
  obtain ⟨v2, -, p20⟩ := val_2 h
  obtain ⟨v3, b6⟩ := val_3 h
  rw [av_2, h1] at v2
  rw [av_3, h2] at v3
  have eP := (nI_eq (by omega) (by omega)).mp v2
  have eB := (nI_eq (by omega) (by omega)).mp v3
  rw [eP, eB]
  exact ⟨Q', h⟩
/-! the text of a village -/
theorem flat_sh {g : Nat → List Nat} : ∀ m, flat g (m + 1) = g 0 ++ flat (fun i => g (i + 1)) m := fun m => by
  induction m with
  | zero =>
    show [] ++ g 0 = g 0 ++ []
    rw [List.nil_append, List.append_nil]
  | succ m ih =>
    show flat g (m + 1) ++ g (m + 1) = g 0 ++ (flat (fun i => g (i + 1)) m ++ g (m + 1))
    rw [ih, List.append_assoc]
theorem kwN_at : kwN 0 = [115, 101, 97, 115, 111, 110] ∧ kwN 1 = [115, 104, 97, 114, 101, 115] ∧ kwN 2 = [108, 101, 115, 115] ∧ kwN 3 = [108, 101, 97, 115, 116] ∧ kwN 4 = [99, 97, 114, 114, 121] ∧ kwN 5 = [97, 112, 112, 101, 97, 108] ∧ kwN 6 = [114, 101, 99, 111, 117, 110, 116, 115] ∧ kwN 7 = [98, 111, 97, 116] ∧ kwN 8 = [112, 101, 114, 115, 111, 110] ∧ kwN 9 = [111, 102] := by decide +kernel
theorem NLw_eq (w : Nat → List Nat) (R : List Nat) : ([115, 101, 97, 115, 111, 110] ++ ((32 :: w 0) ++ ([32, 115, 104, 97, 114, 101, 115] ++ ((32 :: w 1) ++ ((32 :: w 2) ++ ((32 :: w 3) ++ ((32 :: w 4) ++ ([32, 108, 101, 115, 115] ++ ((32 :: w 5) ++ ([32, 108, 101, 97, 115, 116] ++ ((32 :: w 6) ++ ([32, 99, 97, 114, 114, 121] ++ ((32 :: w 7) ++ ([32, 97, 112, 112, 101, 97, 108] ++ ((32 :: w 8) ++ ([32, 114, 101, 99, 111, 117, 110, 116, 115] ++ ((32 :: w 9) ++ ([59])))))))))))))))))) ++ R = nlL w R := by
  obtain ⟨k0, k1, k2, k3, k4, k5, k6, -, -, -⟩ := kwN_at
  unfold nlL
  rw [k0, k1, k2, k3, k4, k5, k6]
  simp only [List.append_assoc, List.cons_append, List.nil_append]
theorem NLx_eq (a : Nat → Int32) (R : List Nat) : NLx a ++ R = nlL (fun i => numL (a i)) R := by
  unfold NLx
  exact NLw_eq (fun i => numL (a i)) R
theorem nm_clamp {x : Nat} (h : 1 ≤ x ∧ x ≤ 26) : nmL (nI (x * 2 ^ 25)).toNatClampNeg = [96 + x] := by
  rw [nI_clamp (by omega)]
  exact nmL_1 x h.1 h.2
theorem bo_txt {B : Nat} {cb : Nat → Nat} (hcb : ∀ b, b < B → 1 ≤ cb b ∧ cb b ≤ 26) {bn : Nat → Int32} (hb : ∀ b, b < B → bn b = nI (cb b * 2 ^ 25)) (X : List Nat) : ∀ m k, k + m ≤ B → flat (fun i => boL bn (k + i)) m ++ X = btL cb X m k := fun m => by
  induction m with
  | zero => exact fun _ _ => rfl
  | succ m ih =>
    intro k hk
    have e1 : boL bn (k + 0) = [98, 111, 97, 116, 32] ++ ([96 + cb k] ++ [59]) := by
      rw [Nat.add_zero]
      unfold boL
      rw [hb k (by omega), nm_clamp (hcb k (by omega))]
    have e2 : (fun i => boL bn (k + (i + 1))) = fun i => boL bn (k + 1 + i) := funext fun i => congrArg (boL bn) (by omega)
    rw [flat_sh, List.append_assoc]
    show boL bn (k + 0) ++ (flat (fun i => boL bn (k + (i + 1))) m ++ X) = _
    rw [e1, e2, ih (k + 1) (by omega)]
    show _ = kwN 7 ++ ([32] ++ ([96 + cb k] ++ (59 :: btL cb X m (k + 1))))
    rw [kwN_at.2.2.2.2.2.2.2.1]
    simp only [List.append_assoc, List.cons_append, List.nil_append]
theorem pe_txt {P B : Nat} {c cb o : Nat → Nat} (hB : B < 6) (hc : ∀ k, k < P → 1 ≤ c k ∧ c k ≤ 26) (hcb : ∀ b, b < B → 1 ≤ cb b ∧ cb b ≤ 26) (ho : ∀ k, k < P → o k ≤ B) {bn pn bo : Nat → Int32} (hb : ∀ b, b < B → bn b = nI (cb b * 2 ^ 25)) (hp : ∀ p, p < P → pn p = nI (c p * 2 ^ 25)) (hbo : ∀ p, p < P → bo p = obS o p) : ∀ m k, k + m ≤ P → flat (fun i => peL pn bn bo (k + i)) m = peT c cb o m k := fun m => by
  induction m with
  | zero => exact fun _ _ => rfl
  | succ m ih =>
    intro k hk
    have e1 : peL pn bn bo (k + 0) = [112, 101, 114, 115, 111, 110, 32] ++ ([96 + c k] ++ ((if o k = 0 then [] else [32, 111, 102, 32] ++ [96 + cb (o k - 1)]) ++ [59])) := by
      rw [Nat.add_zero]
      unfold peL
      rw [hp k (by omega), nm_clamp (hc k (by omega)), hbo k (by omega)]
      unfold ofL obS
      by_cases q : o k = 0
      · rw [if_pos q, if_pos q, if_pos rfl]
      · have hk2 := ho k (by omega)
        have hm : ∀ b, b < 20 → ¬ nI b = -2 := by decide
        rw [if_neg q, if_neg q, if_neg (hm _ (by omega)), nI_clamp (by omega), hb _ (by omega), nm_clamp (hcb _ (by omega))]
    have e2 : (fun i => peL pn bn bo (k + (i + 1))) = fun i => peL pn bn bo (k + 1 + i) := funext fun i => congrArg (peL pn bn bo) (by omega)
    rw [flat_sh]
    show peL pn bn bo (k + 0) ++ flat (fun i => peL pn bn bo (k + (i + 1))) m = _
    rw [e1, e2, ih (k + 1) (by omega)]
    show _ = kwN 8 ++ ([32] ++ ([96 + c k] ++ (if o k = 0 then 59 :: peT c cb o m (k + 1) else [32] ++ (kwN 9 ++ ([32] ++ ([96 + cb (o k - 1)] ++ (59 :: peT c cb o m (k + 1))))))))
    rw [kwN_at.2.2.2.2.2.2.2.2.1, kwN_at.2.2.2.2.2.2.2.2.2]
    by_cases q : o k = 0
    · rw [if_pos q, if_pos q]
      simp only [List.append_assoc, List.cons_append, List.nil_append]
    · rw [if_neg q, if_neg q]
      simp only [List.append_assoc, List.cons_append, List.nil_append]
/-- what setup() tells of such a village -/
theorem su_txt {P B : Nat} {m c cb o : Nat → Nat} (hV : VIL P B m c cb o) {nums bn pn bo : Nat → Int32} (hn : ∀ i, i < 10 → nums i = nI (m i)) (hb : ∀ b, b < B → bn b = nI (cb b * 2 ^ 25)) (hp : ∀ p, p < P → pn p = nI (c p * 2 ^ 25)) (hbo : ∀ p, p < P → bo p = obS o p) : suL P B nums pn bn bo = suT P B m c cb o := by
  obtain ⟨hm, hP, hB, hc, hci, hcb, hbi, ho⟩ := hV
  have e1 := bo_txt hcb hb (flat (peL pn bn bo) P) B 0 (by omega)
  have e2 := pe_txt hB hc hcb ho hb hp hbo P 0 (by omega)
  have f1 : (fun i => boL bn (0 + i)) = boL bn := funext fun i => congrArg _ (Nat.zero_add i)
  have f2 : (fun i => peL pn bn bo (0 + i)) = peL pn bn bo := funext fun i => congrArg _ (Nat.zero_add i)
  rw [f1] at e1
  rw [f2] at e2
  unfold suL
  rw [NLx_eq, e1, e2]
  unfold suT nlL
  dsimp only
  rw [hn 0 (by decide), hn 1 (by decide), hn 2 (by decide), hn 3 (by decide), hn 4 (by decide), hn 5 (by decide), hn 6 (by decide), hn 7 (by decide), hn 8 (by decide), hn 9 (by decide)]
