section TX2
variable {N P B Q : Nat} {day votes isOpen baskets lays recs fneed clos pastN logN : Int32} {boatO seaO faultO daysO backB sailB plc car bnd bsk dyL rsn pastF logF mW : Nat → Int32}
variable {nums bNames pNames fBoats : Nat → Int32} {nB nP mPpl mBts : Int32} {mNum mNam mFst mBnm : Nat → Int32}
variable {tx : Nat → Int32} {txl i : Int32}
theorem su_name (hs : RSu P B Q nums bNames pNames fBoats nB nP mPpl mBts mNum mNam mFst mBnm) {n : Nat} (hn : n < P) : f_X7_personName pNames (nI n) = nI (mNam n).toNatClampNeg ∧ mNam n = nI (mNam n).toNatClampNeg ∧ (mNam n).toNatClampNeg < 2 ^ 30 := by
  have hP := su_P hs
  obtain ⟨-, -, -, -, -, -, -, -, -, -, -, -, -, -, h5, -⟩ := hs
  obtain ⟨e1, e2, -⟩ := h5 n hn
  obtain ⟨e3, e4⟩ := vin_nI e2
  refine ⟨?_, e3, e4⟩
  unfold f_X7_personName
  rw [cell_nI (by decide) (by omega), e1]
  exact e3
theorem su_bname (hs : RSu P B Q nums bNames pNames fBoats nB nP mPpl mBts mNum mNam mFst mBnm) {n : Nat} (hn : n < B) : f_X7_boatName bNames (nI n) = nI (mBnm n).toNatClampNeg ∧ mBnm n = nI (mBnm n).toNatClampNeg ∧ (mBnm n).toNatClampNeg < 2 ^ 30 := by
  have hB := hs.2.2.2.2.2.1
  obtain ⟨-, -, -, -, -, -, -, -, -, -, -, -, -, -, -, h6⟩ := hs
  obtain ⟨e1, e2⟩ := h6 n hn
  obtain ⟨e3, e4⟩ := vin_nI e2
  refine ⟨?_, e3, e4⟩
  unfold f_X7_boatName
  rw [cell_nI (by decide) (by omega), e1]
  exact e3
def carL (mNam : Nat → Int32) (c : Int32) : List Nat := if c = -2 then [] else 32 :: nmL (mNam c.toNatClampNeg).toNatClampNeg
def bskL (b : Int32) : List Nat := if b = -2 then [] else 32 :: numL b
def seaL (s : Int32) : List Nat := if s = 0 then [] else [32, 42]
def vwL (mNam plc car bsk seaO : Nat → Int32) (n : Nat) : List Nat := nmL (mNam n).toNatClampNeg ++ (32 :: (plL (plc n) ++ (carL mNam (car n) ++ (bskL (bsk n) ++ (seaL (seaO n) ++ [10])))))
theorem vwL_len (n : Nat) : (vwL mNam plc car bsk seaO n).length ≤ 60 := by
  have h1 := nmL_len (mNam n).toNatClampNeg
  have h2 := (plL_ok (plc n)).1
  have h3 := nmL_len (mNam (car n).toNatClampNeg).toNatClampNeg
  have h4 := numL_len (bsk n)
  have k1 : (carL mNam (car n)).length ≤ 7 := by
    unfold carL
    split
    · exact Nat.zero_le _
    · rw [List.length_cons]
      omega
  have k2 : (bskL (bsk n)).length ≤ 12 := by
    unfold bskL
    split
    · exact Nat.zero_le _
    · rw [List.length_cons]
      omega
  have k3 : (seaL (seaO n)).length ≤ 2 := by
    unfold seaL
    split
    · exact Nat.zero_le _
    · exact Nat.le_refl _
  unfold vwL
  simp only [List.length_append, List.length_cons, List.length_nil]
  omega
theorem vwL_in (n : Nat) : ∀ c, c ∈ vwL mNam plc car bsk seaO n → c < 128 := fun c hc => by
  unfold vwL carL bskL seaL at hc
  simp only [List.mem_append, List.mem_cons, List.not_mem_nil, or_false] at hc
  rcases hc with z | z | z | z | z | z | z
  · exact nmL_in _ c z
  · omega
  · exact (plL_ok _).2 c z
  · split at z
    · simp at z
    · rcases List.mem_cons.mp z with y | y
      · omega
      · exact nmL_in _ c y
  · split at z
    · simp at z
    · rcases List.mem_cons.mp z with y | y
      · omega
      · exact numL_in _ c y
  · split at z
    · simp at z
    · have : c = 32 ∨ c = 42 := by simpa using z
      omega
  · omega
theorem lain_iff (h : RSt N P B Q day votes isOpen baskets lays recs fneed clos boatO seaO faultO daysO backB sailB plc car bnd bsk dyL rsn pastF pastN logF logN mW) (hP : P ≤ 20) {n : Nat} (hn : n < P) : (f_X12_isLaid mW (nI n) = true ↔ ¬ bsk n = -2) ∧ (¬ bsk n = -2 → lgOk (bsk n)) := by
  obtain ⟨-, -, -, -, -, ⟨f1, f2⟩, -, -, -, -, -, -, -, o1, o2⟩ := h.2.1 n hn
  obtain ⟨e, he⟩ := vin_nI f2
  have hL : f_X12_isLaid mW (nI n) = !decide (plc n < 2) := by
    unfold f_X12_isLaid
    rw [of_5 (by omega), f1]
    by_cases q : plc n < 2
    · rw [if_pos q, decide_eq_true q]
      rfl
    · rw [if_neg q, decide_eq_false q]
      rfl
  rw [hL]
  generalize (plc n).toNatClampNeg = k at e he
  match k, he with
  | 0, _ =>
    have hz := (o1 (Or.inl e)).1
    rw [e, hz]
    exact ⟨⟨fun z => absurd z (by decide), fun z => absurd rfl z⟩, fun z => absurd rfl z⟩
  | 1, _ =>
    have hz := (o1 (Or.inr e)).1
    rw [e, hz]
    exact ⟨⟨fun z => absurd z (by decide), fun z => absurd rfl z⟩, fun z => absurd rfl z⟩
  | 2, _ =>
    have hz := (o2 (Or.inl e)).1
    rw [e]
    refine ⟨⟨fun _ z => ?_, fun _ => by decide⟩, fun _ => lgV hz⟩
    rw [z] at hz
    exact hz (Or.inl (by decide))
  | 3, _ =>
    have hz := (o2 (Or.inr e)).1
    rw [e]
    refine ⟨⟨fun _ z => ?_, fun _ => by decide⟩, fun _ => lgV hz⟩
    rw [z] at hz
    exact hz (Or.inl (by decide))
theorem x_stick6 (h : RSt N P B Q day votes isOpen baskets lays recs fneed clos boatO seaO faultO daysO backB sailB plc car bnd bsk dyL rsn pastF pastN logF logN mW) (hs : RSu P B Q nums bNames pNames fBoats nB nP mPpl mBts mNum mNam mFst mBnm) {n : Nat} (hn : n < P) (s : (Nat → Int32) × Int32) : f_X6_writeStick s.1 s.2 pNames plc car bsk (nI n) = aL s (plL (plc n) ++ (carL mNam (car n) ++ bskL (bsk n))) := by
  have hP := su_P hs
  have s26 : S_X6_writeStick_26 s.1 s.2 plc (nI n) = aL s (plL (plc n)) := by
    unfold S_X6_writeStick_26
    rw [x_plc (by omega)]
    exact add_place _ _
  have j33 : J_X6_writeStick_33 s.1 s.2 pNames plc car (nI n) = aL s (plL (plc n) ++ carL mNam (car n)) := by
    unfold J_X6_writeStick_33 S_X6_writeStick_55 S_X6_writeStick_42 carL
    rw [s26, x_car (by omega)]
    by_cases q : car n = -2
    · rw [if_pos q, if_pos q, List.append_nil]
    · rw [if_neg q, if_neg q]
      have hc : vp_in (car n) P := by
        rcases (h.2.1 n hn).2.2.2.2.2.2.1.2.1 with z | z
        · exact absurd z q
        · exact z
      obtain ⟨e, he⟩ := vin_nI hc
      obtain ⟨n1, n2, n3⟩ := su_name hs he
      rw [show f_X7_personName pNames (car n) = nI (mNam (car n).toNatClampNeg).toNatClampNeg by rw [← n1, ← e], show ∀ u : (Nat → Int32) × Int32, f_X1_add 2048 u.1 u.2 32 = aL u [32] from fun u => aL_1 u 32, add_name (by omega), aL_app, aL_app]
      rfl
  unfold f_X6_writeStick S_X6_writeStick_68
  rw [j33, x_bsk (by omega)]
  unfold bskL
  by_cases q : bsk n = -2
  · rw [if_pos q, if_pos q, List.append_nil]
  · rw [if_neg q, if_neg q, wnum ((lain_iff h hP hn).2 q), aL_app, List.append_assoc]
theorem x_view (h : RSt N P B Q day votes isOpen baskets lays recs fneed clos boatO seaO faultO daysO backB sailB plc car bnd bsk dyL rsn pastF pastN logF logN mW) (hs : RSu P B Q nums bNames pNames fBoats nB nP mPpl mBts mNum mNam mFst mBnm) : f_X6_writeView tx txl pNames nP seaO plc car bsk = aL (tx, f_X1_cutTo txl 0) (flat (vwL mNam plc car bsk seaO) P) := by
  have hP := su_P hs
  unfold f_X6_writeView
  rw [hs.1, nI_clamp (by omega)]
  show L_X6_writeView_10 tx txl pNames seaO plc car bsk P = _
  refine iter_aL (N := P) (fun n s hn => ?_) P (Nat.le_refl _)
  obtain ⟨n1, n2, n3⟩ := su_name hs hn
  have s46 : S_X6_writeView_46 tx txl pNames seaO plc car bsk n s = aL s (nmL (mNam n).toNatClampNeg ++ (32 :: (plL (plc n) ++ (carL mNam (car n) ++ bskL (bsk n))))) := by
    unfold S_X6_writeView_46 S_X6_writeView_36 S_X6_writeView_27
    rw [n1, add_name (by omega), show ∀ u : (Nat → Int32) × Int32, f_X1_add 2048 u.1 u.2 32 = aL u [32] from fun u => aL_1 u 32, x_stick6 h hs hn, aL_app, aL_app]
    rfl
  have j57 : J_X6_writeView_57 tx txl pNames seaO plc car bsk n s = aL s (nmL (mNam n).toNatClampNeg ++ (32 :: (plL (plc n) ++ (carL mNam (car n) ++ bskL (bsk n)))) ++ seaL (seaO n)) := by
    unfold J_X6_writeView_57 S_X6_writeView_66 seaL
    rw [s46, x_sea (by omega), at_14, aL_app]
    by_cases q : seaO n = 0
    · rw [if_pos q, q, List.append_nil]
      rfl
    · rw [if_neg q, beq_false_of_ne q]
      rfl
  unfold G_X6_writeView_10 S_X6_writeView_75
  rw [j57, show ∀ u : (Nat → Int32) × Int32, f_X1_add 2048 u.1 u.2 10 = aL u [10] from fun u => aL_1 u 10, aL_app]
  show aL s _ = aL s _
  unfold vwL
  refine congrArg (aL s) ?_
  simp only [List.append_assoc, List.cons_append]
theorem m_view (h : RSt N P B Q day votes isOpen baskets lays recs fneed clos boatO seaO faultO daysO backB sailB plc car bnd bsk dyL rsn pastF pastN logF logN mW) (hs : RSu P B Q nums bNames pNames fBoats nB nP mPpl mBts mNum mNam mFst mBnm) : (f_X12_saysView mPpl mNam mW i).1 = (sL i (-2, 0) (flat (vwL mNam plc car bsk seaO) P)).1 ∧ (f_X12_saysView mPpl mNam mW i).2.1 = (sL i (-2, 0) (flat (vwL mNam plc car bsk seaO) P)).2 := by
  have hP := su_P hs
  have key : L_X12_saysView_7 mNam mW i P = sL i (-2, 0) (flat (vwL mNam plc car bsk seaO) P) := by
    refine iter_sL (N := P) (fun n s hn => ?_) P (Nat.le_refl _)
    obtain ⟨n1, n2, n3⟩ := su_name hs hn
    have e5 : f_X12_of mW (nI n) 5 = plc n := (of_5 (by omega)).trans (rs_plc h hn)
    have e6 : f_X12_of mW (nI n) 6 = car n := (of_6 (by omega)).trans (rs_car h hn)
    have e8 : f_X12_of mW (nI n) 8 = bsk n := (of_8 (by omega)).trans (rs_bsk h hn)
    have s60 : S_X12_saysPerson_60 s.2 i s.1 mNam mW (nI n) = sL i s (nmL (mNam n).toNatClampNeg ++ (32 :: plL (plc n))) := by
      unfold S_X12_saysPerson_60 S_X12_saysPerson_21 S_X12_saysPerson_15 J_X12_saysPerson_26
      rw [nI_clamp (by omega), n2, e5, show ∀ u : Int32 × Int32, f_X12_saysWord u.2 i u.1 (nI (mNam n).toNatClampNeg).toInt64 = sL i u (nmL (mNam n).toNatClampNeg) from fun u => says_name n3 i u.2 u.1, show ∀ u : Int32 × Int32, f_X12_says u.2 i u.1 32 = sL i u [32] from fun u => sL_1 i u 32, sL_app]
      have hpl : ∀ u : Int32 × Int32, f_X12_saysWord u.2 i u.1 (if plc n = 0 then 263620 else if plc n = 1 then 763528 else if plc n = 2 then 394532 else 659117163) = sL i u (plL (plc n)) := fun u => by
        unfold plL
        by_cases c0 : plc n = 0
        · rw [if_pos c0, if_pos c0]
          exact kw_hand u.2 i u.1
        rw [if_neg c0, if_neg c0]
        by_cases c1 : plc n = 1
        · rw [if_pos c1, if_pos c1]
          exact kw_with u.2 i u.1
        rw [if_neg c1, if_neg c1]
        by_cases c2 : plc n = 2
        · rw [if_pos c2, if_pos c2]
          exact kw_laid u.2 i u.1
        rw [if_neg c2, if_neg c2]
        exact kw_struck u.2 i u.1
      rw [hpl, sL_app, List.append_assoc]
      rw [nI_clamp (by omega)]
      rfl
    have j70 : J_X12_saysPerson_70 s.2 i s.1 mNam mW (nI n) = sL i s (nmL (mNam n).toNatClampNeg ++ (32 :: plL (plc n)) ++ carL mNam (car n)) := by
      unfold J_X12_saysPerson_70 S_X12_saysPerson_93 S_X12_saysPerson_76 carL
      rw [s60, e6]
      rcases (h.2.1 n hn).2.2.2.2.2.2.1.2.1 with z | z
      · rw [if_pos (by rw [z]; decide), if_pos z, List.append_nil]
      · obtain ⟨e, he⟩ := vin_nI z
        obtain ⟨m1, m2, m3⟩ := su_name hs he
        have hne : ¬ car n = -2 := fun w => by
          rw [w] at z
          exact z (Or.inl (by decide))
        rw [if_neg (fun w => z (Or.inl w)), if_neg hne, m2, show ∀ u : Int32 × Int32, f_X12_says u.2 i u.1 32 = sL i u [32] from fun u => sL_1 i u 32, show ∀ u : Int32 × Int32, f_X12_saysWord u.2 i u.1 (nI (mNam (car n).toNatClampNeg).toNatClampNeg).toInt64 = sL i u (nmL (mNam (car n).toNatClampNeg).toNatClampNeg) from fun u => says_name m3 i u.2 u.1, sL_app, sL_app, nI_clamp (by omega)]
        rfl
    have j101 : J_X12_saysPerson_101 s.2 i s.1 mNam mW (nI n) = sL i s (nmL (mNam n).toNatClampNeg ++ (32 :: plL (plc n)) ++ carL mNam (car n) ++ bskL (bsk n)) := by
      unfold J_X12_saysPerson_101 S_X12_saysPerson_118 S_X12_saysPerson_107 bskL
      rw [j70, e8]
      obtain ⟨l1, l2⟩ := lain_iff h hP hn
      by_cases q : bsk n = -2
      · have hf : f_X12_isLaid mW (nI n) = false := by
          cases w : f_X12_isLaid mW (nI n)
          · rfl
          · exact absurd q (l1.mp w)
        rw [hf, if_pos q, List.append_nil]
        rfl
      · rw [l1.mpr q, if_neg q, show ∀ u : Int32 × Int32, f_X12_says u.2 i u.1 32 = sL i u [32] from fun u => sL_1 i u 32, snum (l2 q), sL_app, sL_app]
        rfl
    have j126 : J_X12_saysPerson_126 s.2 i s.1 mNam mW (nI n) = sL i s (nmL (mNam n).toNatClampNeg ++ (32 :: plL (plc n)) ++ carL mNam (car n) ++ bskL (bsk n) ++ seaL (seaO n)) := by
      unfold J_X12_saysPerson_126 S_X12_saysPerson_138 S_X12_saysPerson_132 seaL
      rw [j101, ← eq_sea h hP hn, x_sea (by omega)]
      by_cases q : seaO n = 0
      · rw [if_pos q, q, List.append_nil]
        rfl
      · rw [if_neg q, beq_false_of_ne q, show ∀ u : Int32 × Int32, f_X12_says u.2 i u.1 32 = sL i u [32] from fun u => sL_1 i u 32, show ∀ u : Int32 × Int32, f_X12_says u.2 i u.1 42 = sL i u [42] from fun u => sL_1 i u 42, sL_app, sL_app]
        rfl
    unfold G_X12_saysView_7 S_X12_saysView_17 f_X12_saysPerson S_X12_saysPerson_144
    rw [show (S_X12_saysView_2 i).2.2 = i from rfl, j126, show ∀ u : Int32 × Int32, f_X12_says u.2 i u.1 10 = sL i u [10] from fun u => sL_1 i u 10, sL_app]
    show sL i s _ = sL i s _
    unfold vwL
    refine congrArg (sL i s) ?_
    simp only [List.append_assoc, List.cons_append]
  unfold f_X12_saysView
  rw [hs.2.1, nI_clamp (by omega), key]
  exact ⟨rfl, rfl⟩
theorem view_ok (hP : P ≤ 20) : (flat (vwL mNam plc car bsk seaO) P).length ≤ 2048 ∧ ∀ c, c ∈ flat (vwL mNam plc car bsk seaO) P → c < 128 := by
  have := flat_len (g := vwL mNam plc car bsk seaO) (B := 60) (n := P) (fun k _ => vwL_len k)
  exact ⟨by omega, flat_in (fun k _ => vwL_in k)⟩
theorem eq_viewLength (h : RSt N P B Q day votes isOpen baskets lays recs fneed clos boatO seaO faultO daysO backB sailB plc car bnd bsk dyL rsn pastF pastN logF logN mW) (hs : RSu P B Q nums bNames pNames fBoats nB nP mPpl mBts mNum mNam mFst mBnm) (h0 : ¬ txl < 0) : (f_X11_viewLength pNames nP seaO plc car bsk tx txl).1 = (f_X12_viewLength mPpl mNam mW).1 ∧ ¬ (f_X11_viewLength pNames nP seaO plc car bsk tx txl).2.2 < 0 := by
  obtain ⟨k1, k2⟩ := view_ok (mNam := mNam) (plc := plc) (car := car) (bsk := bsk) (seaO := seaO) (su_P hs)
  unfold f_X11_viewLength S_X11_viewLength_12 f_X12_viewLength S_X12_viewLength_2
  rw [x_view h hs, (m_view h hs).2]
  exact ⟨txt_len h0 k1 k2, aL_nn h0 k1 k2⟩
theorem eq_viewByte (h : RSt N P B Q day votes isOpen baskets lays recs fneed clos boatO seaO faultO daysO backB sailB plc car bnd bsk dyL rsn pastF pastN logF logN mW) (hs : RSu P B Q nums bNames pNames fBoats nB nP mPpl mBts mNum mNam mFst mBnm) (h0 : ¬ txl < 0) (x : Int32) (mOuts mWant mFnd : Int32) : (f_X11_viewByte pNames nP seaO plc car bsk tx txl x).1 = (f_X12_viewByte mPpl mOuts mWant mFnd mNam mW x).1 ∧ ¬ (f_X11_viewByte pNames nP seaO plc car bsk tx txl x).2.2 < 0 := by
  obtain ⟨k1, k2⟩ := view_ok (mNam := mNam) (plc := plc) (car := car) (bsk := bsk) (seaO := seaO) (su_P hs)
  unfold f_X11_viewByte S_X11_viewByte_20 f_X12_viewByte S_X12_viewByte_8
  by_cases q : 0 ≤ x
  · simp only [if_pos q]
    rw [x_view h hs, (m_view h hs).1]
    exact ⟨txt_byte h0 q k1 k2, aL_nn h0 k1 k2⟩
  · simp only [if_neg q]
    exact ⟨trivial, h0⟩
end TX2
