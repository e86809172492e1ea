/-! WHAT THE TEXTS ARE: told's texts, out of the invariant -/
theorem asc_ofN : ∀ c, c < 128 → asc (nI c) := show ∀ c, c < 128 → (0 : Int32) ≤ nI c ∧ nI c < 128 by decide +kernel
theorem aL_at0 {L : List Nat} (hl : L.length ≤ 2048) (hc : ∀ c, c ∈ L → c < 128) : (aL (z0, f_X1_cutTo 0 0) L).2 = nI L.length ∧ ∀ j, j < L.length → f_X1_at 2048 (aL (z0, f_X1_cutTo 0 0) L).1 (aL (z0, f_X1_cutTo 0 0) L).2 (nI j) = nI (L.getD j 0) ∧ L.getD j 0 < 128 := by
  have e : f_X1_cutTo 0 0 = nI 0 := by decide
  obtain ⟨a1, -, a3⟩ := aL_all z0 L 0 (by omega) hc
  rw [e, a1, Nat.zero_add]
  refine ⟨rfl, fun j hj => ?_⟩
  have hcn : L.getD j 0 < 128 := by
    rw [List.getD_eq_getElem?_getD, List.getElem?_eq_getElem hj]
    exact hc _ (List.getElem_mem hj)
  have h3 := a3 j hj
  rw [Nat.zero_add] at h3
  unfold f_X1_at
  rw [if_neg (nI_pos (by omega)), if_neg (nI_ge (by omega) (by omega)), if_neg (nI_ge (by omega) (by omega)), nI_clamp (by omega), h3, and_255 _ hcn]
  exact ⟨rfl, hcn⟩
/-- a text that a length and a byte tell -/
def TLn (len : Int32) (byt : Int32 → Int32) (L : List Nat) : Prop := len = nI L.length ∧ L.length ≤ 2048 ∧ ∀ j, j < L.length → byt (nI j) = nI (L.getD j 0) ∧ L.getD j 0 < 128
theorem TLn.ok {len : Int32} {byt : Int32 → Int32} {L : List Nat} (h : TLn len byt L) : ∀ j, j < L.length → asc (byt (nI j)) := fun j hj => by
  rw [(h.2.2 j hj).1]
  exact asc_ofN _ (h.2.2 j hj).2
theorem tn_story {N P B Q : Nat} {v : VT} (hR : RA N P B Q v) (hN : N ≤ 600) : ∃ L : List Nat, TLn (a_storyLength v) (a_storyByte v) L := by
  obtain ⟨mTaped, mErr, mPpl, mBts, mUs, mTape, mNum, mNam, mFst, mBnm, mW, mUn, mSl, mKp, hR⟩ := hR
  obtain ⟨k1, k2⟩ := story_ok hR.2.1
  obtain ⟨b1, b2⟩ := aL_at0 k1 k2
  refine ⟨_, ?_, k1, fun j hj => ?_⟩
  · unfold a_storyLength f_X11_storyLength S_X11_storyLength_11
    rw [x_story hR.2.1 hN]
    exact b1
  · unfold a_storyByte f_X11_storyByte S_X11_storyByte_19
    rw [if_pos (Int32.not_lt.mp (nI_pos (by omega))), x_story hR.2.1 hN]
    exact b2 j hj
theorem tn_view {N P B Q : Nat} {v : VT} (hR : RA N P B Q v) (hN : N ≤ 600) : ∃ L : List Nat, TLn (a_viewLength v) (a_viewByte v) L := by
  obtain ⟨mTaped, mErr, mPpl, mBts, mUs, mTape, mNum, mNam, mFst, mBnm, mW, mUn, mSl, mKp, hR⟩ := hR
  obtain ⟨k1, k2⟩ := view_ok (mNam := mNam) (plc := v_plc v) (car := v_car v) (bsk := v_bsk v) (seaO := v_seaO v) (su_P hR.1)
  obtain ⟨b1, b2⟩ := aL_at0 k1 k2
  refine ⟨_, ?_, k1, fun j hj => ?_⟩
  · unfold a_viewLength f_X11_viewLength S_X11_viewLength_12
    rw [x_view hR.2.1 hR.1]
    exact b1
  · unfold a_viewByte f_X11_viewByte S_X11_viewByte_20
    rw [if_pos (Int32.not_lt.mp (nI_pos (by omega))), x_view hR.2.1 hR.1]
    exact b2 j hj
theorem flat_cg {g h : Nat → List Nat} : ∀ {n : Nat}, (∀ k, k < n → g k = h k) → flat g n = flat h n
  | 0, _ => rfl
  | n + 1, hk => by
    show flat g n ++ g n = flat h n ++ h n
    rw [flat_cg (fun k q => hk k (Nat.lt_succ_of_lt q)), hk n (Nat.lt_succ_self n)]
theorem suL_cg {P B : Nat} {a a' n n' b b' o : Nat → Int32} (h1 : ∀ i, i < 10 → a i = a' i) (h2 : ∀ i, i < P → n i = n' i) (h3 : ∀ i, i < B → b i = b' i) (h4 : ∀ i, i < P → o i = -2 ∨ vp_in (o i) B) : suL P B a n b o = suL P B a' n' b' o := by
  unfold suL
  have e1 : NLx a = NLx a' := by
    unfold NLx
    rw [h1 0 (by omega), h1 1 (by omega), h1 2 (by omega), h1 3 (by omega), h1 4 (by omega), h1 5 (by omega), h1 6 (by omega), h1 7 (by omega), h1 8 (by omega), h1 9 (by omega)]
  have e2 : flat (boL b) B = flat (boL b') B := flat_cg (fun k hk => by
    unfold boL
    rw [h3 k hk])
  have e3 : flat (peL n b o) P = flat (peL n' b' o) P := flat_cg (fun k hk => by
    unfold peL
    rw [h2 k hk]
    have : ofL b (o k) = ofL b' (o k) := by
      unfold ofL
      by_cases q : o k = -2
      · rw [if_pos q, if_pos q]
      · rw [if_neg q, if_neg q, h3 _ (vin_nI ((h4 k hk).resolve_left q)).2]
    rw [this])
  rw [e1, e2, e3]
theorem tn_setup {N P B Q : Nat} {v : VT} (hR : RA N P B Q v) : TLn (a_setupLength v) (a_setupByte v) (suL P B (v_nums v) (v_pNames v) (v_bNames v) (v_boatO v)) := by
  obtain ⟨mTaped, mErr, mPpl, mBts, mUs, mTape, mNum, mNam, mFst, mBnm, mW, mUn, mSl, mKp, hR⟩ := hR
  have e : suL P B mNum mNam mBnm (v_boatO v) = suL P B (v_nums v) (v_pNames v) (v_bNames v) (v_boatO v) := by
    refine suL_cg (fun i hi => (hR.1.2.2.2.2.2.2.1 i hi).symm) (fun i hi => ?_) (fun i hi => ?_) (fun i hi => (hR.2.1.2.1 i hi).1.2)
    · exact ((hR.1.2.2.2.2.2.2.2.2.2.2.2.2.2.2.1 i hi).1).symm
    · exact ((hR.1.2.2.2.2.2.2.2.2.2.2.2.2.2.2.2 i hi).1).symm
  obtain ⟨k1, k2⟩ := suL_ok (mNum := mNum) (mNam := mNam) (mBnm := mBnm) (boatO := v_boatO v) (su_P hR.1) (hR.1.2.2.2.2.2.1)
  rw [e] at k1 k2
  obtain ⟨b1, b2⟩ := aL_at0 k1 k2
  refine ⟨?_, k1, fun j hj => ?_⟩
  · unfold a_setupLength f_X11_setupLength S_X11_setupLength_15
    rw [x_setup hR.2.1 hR.1, e]
    exact b1
  · unfold a_setupByte f_X11_setupByte S_X11_setupByte_23
    rw [if_pos (Int32.not_lt.mp (nI_pos (by omega))), x_setup hR.2.1 hR.1, e]
    exact b2 j hj
theorem TXT_of {N P B Q : Nat} {v : VT} (hR : RA N P B Q v) (hN : N ≤ 600) : ∃ n0 n1 n2, TXT v n0 n1 n2 := by
  obtain ⟨L0, h0⟩ := tn_view hR hN
  obtain ⟨L1, h1⟩ := tn_story hR hN
  have h2 := tn_setup hR
  exact ⟨_, _, _, ⟨h0.1, h0.2.1, h0.ok⟩, ⟨h1.1, h1.2.1, h1.ok⟩, ⟨h2.1, h2.2.1, h2.ok⟩⟩
theorem val_2 {N P B Q : Nat} {v : VT} (hR : RA N P B Q v) : a_value v 2 = nI P ∧ 2 ≤ P ∧ P ≤ 20 := by
  obtain ⟨mTaped, mErr, mPpl, mBts, mUs, mTape, mNum, mNam, mFst, mBnm, mW, mUn, mSl, mKp, hR⟩ := hR
  exact ⟨hR.1.1, hR.1.2.2.2.2.1⟩
theorem val_3 {N P B Q : Nat} {v : VT} (hR : RA N P B Q v) : a_value v 3 = nI B ∧ B ≤ 6 := by
  obtain ⟨mTaped, mErr, mPpl, mBts, mUs, mTape, mNum, mNam, mFst, mBnm, mW, mUn, mSl, mKp, hR⟩ := hR
  exact ⟨hR.1.2.2.1, hR.1.2.2.2.2.2.1⟩
/-- told speaks of the state and the setup alone -/
theorem tolL_same {v u : VT} {n0 n1 n2 P B : Nat} (h1 : u.1 = v.1) (h2 : u.2.1 = v.2.1) : tolL u n0 n1 n2 P B = tolL v n0 n1 n2 P B := by
  obtain ⟨t, s, r⟩ := v
  obtain ⟨t', s', r'⟩ := u
  cases h1
  cases h2
  rfl
theorem TXT_same {v u : VT} {n0 n1 n2 : Nat} (h : TXT v n0 n1 n2) (h1 : u.1 = v.1) (h2 : u.2.1 = v.2.1) : TXT u n0 n1 n2 := by
  obtain ⟨t, s, r⟩ := v
  obtain ⟨t', s', r'⟩ := u
  cases h1
  cases h2
  exact h
