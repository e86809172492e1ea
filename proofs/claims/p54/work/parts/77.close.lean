section FRM
variable {P B : Nat} {mW mW2 : Nat → Int32} {mNum : Nat → Int32}
/-- the reference's sets and results read the people's cells alone -/
theorem setIn_cong (hP : P ≤ 20) (hp : ∀ j, 9 ≤ j → j < 229 → mW2 j = mW j) (b : Int32) : f_X12_setIn (nI P) mW2 b = f_X12_setIn (nI P) mW b := by
  rw [m_setIn _ _ hP, m_setIn _ _ hP]
  exact congrArg nI (mskB_cong (fun o ho => by rw [hp _ (by omega) (by omega), hp _ (by omega) (by omega)]))
theorem turnout_cong (hP : P ≤ 20) (hp : ∀ j, 9 ≤ j → j < 229 → mW2 j = mW j) : f_X12_turnout (nI P) mW2 = f_X12_turnout (nI P) mW := by
  unfold f_X12_turnout
  rw [m_allLaid _ hP, m_allLaid _ hP]
  refine congrArg (fun x => f_X12_ones (nI x)) (mskB_cong (fun o ho => ?_))
  rw [hp _ (by omega) (by omega), hp _ (by omega) (by omega)]
theorem resultOf_cong (hP : P ≤ 20) (hp : ∀ j, 9 ≤ j → j < 229 → mW2 j = mW j) (need wo more into : Int32) : f_X12_resultOf (nI P) mW2 need wo more into = f_X12_resultOf (nI P) mW need wo more into := by
  have hs : ∀ b, f_X12_setIn (nI P) mW2 b = f_X12_setIn (nI P) mW b := setIn_cong hP hp
  have hL : L_X12_resultOf_12 (nI P) mW2 wo more into 4 = L_X12_resultOf_12 (nI P) mW wo more into 4 := iter_cong (N := 4) (fun n s hn => by
    unfold J_X12_resultOf_61 J_X12_resultOf_92
    rw [hs]) 4 (Nat.le_refl _)
  unfold f_X12_resultOf
  rw [hL]
  have hle := wh_le (b := 19) (P := fun k => decide (¬ (((L_X12_resultOf_12 (nI P) mW wo more into 4).1 >>> ((nI k) &&& 31)) &&& 1) = 0))
  generalize wh_ (fun k => decide (¬ (((L_X12_resultOf_12 (nI P) mW wo more into 4).1 >>> ((nI k) &&& 31)) &&& 1) = 0)) 19 = e at hle
  rw [of_8 (by omega), of_8 (by omega), hp _ (by omega) (by omega)]
theorem outOn_cong (hB : B ≤ 6) (hb : ∀ j, 229 ≤ j → j < 247 → mW2 j = mW j) (d : Int32) : f_X12_outOn (nI B) mW2 d = f_X12_outOn (nI B) mW d := by
  unfold f_X12_outOn
  rw [nI_clamp (by omega)]
  exact iter_cong (N := B) (fun n s hn => by rw [m_out (by omega), m_out (by omega), ofB_1 (by omega), ofB_1 (by omega), hb _ (by omega) (by omega), hb _ (by omega) (by omega)]) B (Nat.le_refl _)
theorem needNow_cong {mPpl : Int32} (hB : B ≤ 6) (h0 : ∀ j, j < 5 → j ≠ 3 → mW2 j = mW j) (hb : ∀ j, 229 ≤ j → j < 247 → mW2 j = mW j) : f_X12_needNow mPpl (nI B) mNum mW2 = f_X12_needNow mPpl (nI B) mNum mW := by
  unfold f_X12_needNow f_X12_isClosed f_X12_isOpen f_X12_needIn0
  rw [h0 0 (by decide) (by decide), h0 1 (by decide) (by decide), h0 2 (by decide) (by decide), h0 4 (by decide) (by decide), outOn_cong hB hb]
theorem resultNow_cong (hP : P ≤ 20) (hB : B ≤ 6) (h0 : ∀ j, j < 5 → j ≠ 3 → mW2 j = mW j) (hp : ∀ j, 9 ≤ j → j < 247 → mW2 j = mW j) : f_X12_resultNow (nI P) (nI B) mNum mW2 = f_X12_resultNow (nI P) (nI B) mNum mW := by
  unfold f_X12_resultNow
  rw [needNow_cong hB h0 (fun j h1 h2 => hp j (by omega) h2), resultOf_cong hP (fun j h1 h2 => hp j h1 (by omega))]
/-- the row of the past that is written -/
theorem keepsPast_eq (hP : P ≤ 20) (hB : B ≤ 6) {a : Nat} (ha : mW 1 - 1 = nI a) (ha2 : a < 2 ^ 30) : f_X12_keepsPast (nI P) (nI B) mNum mW = fun j => if j = 247 + 4 * (a % 8) + 3 then f_X12_resultNow (nI P) (nI B) mNum mW else if j = 247 + 4 * (a % 8) + 2 then mW 4 else if j = 247 + 4 * (a % 8) + 1 then f_X12_turnout (nI P) mW else if j = 247 + 4 * (a % 8) then mW 5 else mW j := by
  have hr : a % 8 < 8 := Nat.mod_lt _ (by decide)
  have hrem : nI a - nI a / 8 * 8 = nI (a % 8) := by
    rw [show (8 : Int32) = nI 8 from rfl]
    exact pk_rem (by omega) (by decide) (by decide)
  have p0 : ((247 : Int32) + 4 * nI (a % 8)).toNatClampNeg = 247 + 4 * (a % 8) := by
    rw [show (247 : Int32) = nI 247 from rfl, show (4 : Int32) = nI 4 from rfl, pk_mul, nI_add, nI_clamp (by omega)]
  have p1 : ((247 : Int32) + 4 * nI (a % 8) + 1).toNatClampNeg = 247 + 4 * (a % 8) + 1 := by
    rw [show (247 : Int32) = nI 247 from rfl, show (4 : Int32) = nI 4 from rfl, pk_mul, nI_add, nI_1, nI_clamp (by omega)]
  have p2 : ((247 : Int32) + 4 * nI (a % 8) + 2).toNatClampNeg = 247 + 4 * (a % 8) + 2 := by
    rw [show (247 : Int32) = nI 247 from rfl, show (4 : Int32) = nI 4 from rfl, show (2 : Int32) = nI 2 from rfl, pk_mul, nI_add, nI_add, nI_clamp (by omega)]
  have p3 : ((247 : Int32) + 4 * nI (a % 8) + 3).toNatClampNeg = 247 + 4 * (a % 8) + 3 := by
    rw [show (247 : Int32) = nI 247 from rfl, show (4 : Int32) = nI 4 from rfl, show (3 : Int32) = nI 3 from rfl, pk_mul, nI_add, nI_add, nI_clamp (by omega)]
  unfold f_X12_keepsPast
  rw [ha, hrem, p0, p1, p2, p3]
  have t1 : f_X12_turnout (nI P) (upd mW (247 + 4 * (a % 8)) (mW 5)) = f_X12_turnout (nI P) mW := turnout_cong hP (fun j h1 h2 => upd_ne (by omega))
  rw [t1]
  have v4 : upd (upd mW (247 + 4 * (a % 8)) (mW 5)) (247 + 4 * (a % 8) + 1) (f_X12_turnout (nI P) mW) 4 = mW 4 := by rw [upd_ne (by omega), upd_ne (by omega)]
  rw [v4]
  have r1 : f_X12_resultNow (nI P) (nI B) mNum (upd (upd (upd mW (247 + 4 * (a % 8)) (mW 5)) (247 + 4 * (a % 8) + 1) (f_X12_turnout (nI P) mW)) (247 + 4 * (a % 8) + 2) (mW 4)) = f_X12_resultNow (nI P) (nI B) mNum mW := resultNow_cong hP hB (fun j h1 _ => by rw [upd_ne (by omega), upd_ne (by omega), upd_ne (by omega)]) (fun j h1 h2 => by rw [upd_ne (by omega), upd_ne (by omega), upd_ne (by omega)])
  rw [r1]
  rfl
end FRM
theorem RES_in (c : Nat → Nat) (need : Int32) : RES c need = -2 ∨ ∃ k, k < 4 ∧ RES c need = nI k := by
  unfold RES
  by_cases q : nI (smN c 4) < need
  · exact Or.inl (if_pos q)
  rw [if_neg q]
  by_cases q0 : smN c 4 = 0
  · exact Or.inl (if_pos q0)
  rw [if_neg q0]
  generalize c (wh_ (fun o => decide (c o < 4 ∧ cnt c (c o) = mxN c 4)) 19) = k
  by_cases z : k < 4
  · exact Or.inr ⟨k, z, bk_in z⟩
  · exact Or.inl (bk_no z)
theorem lgR {x : Int32} (h : ∃ c need, x = RES c need) : lgOk (f_X12_orMinus x) := by
  obtain ⟨c, need, rfl⟩ := h
  unfold f_X12_orMinus
  rcases RES_in c need with q | ⟨k, hk, q⟩
  · rw [q, if_neg (by decide)]
    exact Or.inl rfl
  · rw [q, if_pos (nI_pos' (by omega))]
    exact lgK (by omega)
theorem inLog_RES (c : Nat → Nat) (need : Int32) : f_X10_inLog (RES c need) = f_X12_orMinus (RES c need) := by
  unfold f_X10_inLog f_X12_orMinus
  rcases RES_in c need with q | ⟨k, hk, q⟩
  · rw [q, if_pos rfl, if_neg (by decide)]
  · rw [q, if_neg (ne_m2 (by omega)), if_pos (nI_pos' (by omega))]
theorem inLog_res {x y : Int32} (h : x = y) (hx : ∃ c need, y = RES c need) : f_X10_inLog x = f_X12_orMinus y := by
  obtain ⟨c, need, e⟩ := hx
  rw [h, e]
  exact inLog_RES c need
section O7
variable {N M P B Q A : Nat} {day votes isOpen baskets lays recs fneed clos pastN logN : Int32} {boatO seaO faultO daysO backB sailB plc car bnd bsk dyL rsn pastF logF mW mW2 : Nat → Int32}
variable {nums bNames pNames fBoats : Nat → Int32} {nB nP mPpl mBts : Int32} {mNum mNam mFst mBnm : Nat → Int32}
variable {hsN hsX mUs : Int32} {hsF : Nat → StT} {mUn : Nat → Int32}
variable {blB blC : Nat → Int32}
theorem resOf_RES (h : RSt N P B Q day votes isOpen baskets lays recs fneed clos boatO seaO faultO daysO backB sailB plc car bnd bsk dyL rsn pastF pastN logF logN mW) (hP : P ≤ 20) (need : Int32) : ∃ c nd, f_X12_resultOf (nI P) mW need 0 0 (-2) = RES c nd := ⟨_, _, m_resS h hP (fun _ => true) (msk_no plc) need⟩
theorem past_add {a : Nat} (ha : a < 2 ^ 30) (f : Nat → Int32) (i1 i2 i3 i4 : Int32) : f_X5_add 8 f (nI a) i1 i2 i3 i4 = (nI (a + 1), upd (upd (upd (upd f (4 * (a % 8)) i1) (4 * (a % 8) + 1) i2) (4 * (a % 8) + 2) i3) (4 * (a % 8) + 3) i4) := by
  have hr : a % 8 < 8 := Nat.mod_lt _ (by decide)
  have hpl : f_X5_placeOf 8 (nI a) = nI (4 * (a % 8)) := by
    unfold f_X5_placeOf
    rw [if_pos (by decide), floorMod_nI (by omega) (by decide) (by decide), show (4 : Int32) = nI 4 from rfl, pk_mul, Nat.mul_comm]
  unfold f_X5_add
  rw [hpl, nI_1, show (2 : Int32) = nI 2 from rfl, show (3 : Int32) = nI 3 from rfl, nI_1, nI_add, nI_add, setCell_nI (by decide) (by omega), setCell_nI (by decide) (by omega), setCell_nI (by decide) (by omega), setCell_nI (by decide) (by omega)]
theorem st_close (h : RSt N P B Q day votes isOpen baskets lays recs fneed clos boatO seaO faultO daysO backB sailB plc car bnd bsk dyL rsn pastF pastN logF logN mW) (hs : RSu P B Q nums bNames pNames fBoats nB nP mPpl mBts mNum mNam mFst mBnm) (hh : RHi N P B Q hsN hsX hsF mUs mUn) (hN : N ≤ 600) : (f_X11_close nums nP day votes isOpen baskets lays recs fneed clos boatO seaO faultO daysO backB sailB plc car bnd bsk dyL rsn pastF pastN logF logN blB blC hsN hsX hsF).1 = (f_X12_close mPpl mBts mUs mNum mW mUn).1 ∧ RSt (N + 1) P B Q day votes ((f_X11_close nums nP day votes isOpen baskets lays recs fneed clos boatO seaO faultO daysO backB sailB plc car bnd bsk dyL rsn pastF pastN logF logN blB blC hsN hsX hsF).2.2.2.2.2.2.2.2.1) baskets lays recs ((f_X11_close nums nP day votes isOpen baskets lays recs fneed clos boatO seaO faultO daysO backB sailB plc car bnd bsk dyL rsn pastF pastN logF logN blB blC hsN hsX hsF).2.2.2.2.1) ((f_X11_close nums nP day votes isOpen baskets lays recs fneed clos boatO seaO faultO daysO backB sailB plc car bnd bsk dyL rsn pastF pastN logF logN blB blC hsN hsX hsF).2.2.2.1) boatO seaO faultO daysO backB sailB plc car bnd bsk dyL rsn ((f_X11_close nums nP day votes isOpen baskets lays recs fneed clos boatO seaO faultO daysO backB sailB plc car bnd bsk dyL rsn pastF pastN logF logN blB blC hsN hsX hsF).2.2.2.2.2.2.2.2.2.2.2.1) ((f_X11_close nums nP day votes isOpen baskets lays recs fneed clos boatO seaO faultO daysO backB sailB plc car bnd bsk dyL rsn pastF pastN logF logN blB blC hsN hsX hsF).2.2.2.2.2.2.2.2.2.2.2.2) ((f_X11_close nums nP day votes isOpen baskets lays recs fneed clos boatO seaO faultO daysO backB sailB plc car bnd bsk dyL rsn pastF pastN logF logN blB blC hsN hsX hsF).2.2.2.2.2.2.2.2.2.1) ((f_X11_close nums nP day votes isOpen baskets lays recs fneed clos boatO seaO faultO daysO backB sailB plc car bnd bsk dyL rsn pastF pastN logF logN blB blC hsN hsX hsF).2.2.2.2.2.2.2.2.2.2.1) ((f_X12_close mPpl mBts mUs mNum mW mUn).2.2.2) ∧ RHi (N + 1) P B Q ((f_X11_close nums nP day votes isOpen baskets lays recs fneed clos boatO seaO faultO daysO backB sailB plc car bnd bsk dyL rsn pastF pastN logF logN blB blC hsN hsX hsF).2.2.2.2.2.2.1) ((f_X11_close nums nP day votes isOpen baskets lays recs fneed clos boatO seaO faultO daysO backB sailB plc car bnd bsk dyL rsn pastF pastN logF logN blB blC hsN hsX hsF).2.2.2.2.2.2.2.1) ((f_X11_close nums nP day votes isOpen baskets lays recs fneed clos boatO seaO faultO daysO backB sailB plc car bnd bsk dyL rsn pastF pastN logF logN blB blC hsN hsX hsF).2.2.2.2.2.1) ((f_X12_close mPpl mBts mUs mNum mW mUn).2.2.1) ((f_X12_close mPpl mBts mUs mNum mW mUn).2.1) := by
  have hP := su_P hs
  have hB := hs.2.2.2.2.2.1
  unfold f_X11_close f_X12_close S_X11_close_21 S_X11_close_28 S_X12_close_11
  rw [rs_open h]
  cases c1 : tb isOpen
  · simp only [cond_false]
    exact ⟨trivial, h.mono (Nat.le_succ N) hP hB, hh.mono (Nat.le_succ N) hP hB⟩
  simp only [cond_true]
  have hrem := ((hh.rem (t := (day, votes, isOpen, baskets, lays, recs, fneed, clos, boatO, seaO, faultO, daysO, backB, sailB, plc, car, bnd, bsk, dyL, rsn, pastF, pastN, logF, logN)) h hP hB).mono (Nat.le_succ N) hP hB)
  obtain ⟨a, v, e1, ⟨e2, e2'⟩, e3, -, e4⟩ := h.2.2.2.2.2.1
  rw [c1] at e3
  have e3' : v = a + 1 := e3
  have hmP := hs.2.1
  have hmB := hs.2.2.2.1
  have hneed0 := eq_need0 h hs hN
  have hneedV : f_X10_needOfVote nums nP day votes isOpen fneed backB = f_X12_needIn0 mPpl mBts mNum mW 0 := by
    unfold f_X10_needOfVote
    have hv0 := h.1.2.2.1.2 c1
    have hvp : ¬ votes ≤ 0 := by
      rw [e2, e3']
      exact nI_nle (by omega) (by omega)
    rw [c1, if_neg hvp]
    exact hneed0
  generalize hnd : f_X12_needIn0 mPpl mBts mNum mW 0 = nd at hneedV
  -- the world that is closed, without its row of the past
  have hU : upd (upd (upd mW 4 nd) 2 0) 5 ((upd (upd mW 4 nd) 2 0) 0) = upd (upd (upd mW 4 nd) 2 0) 5 day := by
    rw [upd_ne (by decide), upd_ne (by decide), rs_day h]
  have u1 : upd (upd (upd mW 4 nd) 2 0) 5 day 1 = votes := by rw [upd_ne (by decide), upd_ne (by decide), upd_ne (by decide), rs_votes h]
  have u2 : upd (upd (upd mW 4 nd) 2 0) 5 day 2 = 0 := by rw [upd_ne (by decide), upd_eq]
  have u4 : upd (upd (upd mW 4 nd) 2 0) 5 day 4 = nd := by rw [upd_ne (by decide), upd_ne (by decide), upd_eq]
  have u5 : upd (upd (upd mW 4 nd) 2 0) 5 day 5 = day := upd_eq
  have uo : ∀ j, j ≠ 2 → j ≠ 4 → j ≠ 5 → upd (upd (upd mW 4 nd) 2 0) 5 day j = mW j := fun j h2 h4 h5 => by rw [upd_ne h5, upd_ne h2, upd_ne h4]
  have hkp : S_X12_close_45 mPpl mBts mNum mW = f_X12_keepsPast (nI P) (nI B) mNum (upd (upd (upd mW 4 nd) 2 0) 5 day) := by
    unfold S_X12_close_45
    rw [hnd, hU, hmP, hmB]
  generalize upd (upd (upd mW 4 nd) 2 0) 5 day = U at hkp u1 u2 u4 u5 uo
  have hnn : f_X12_needNow (nI P) (nI B) mNum U = nd := by
    have hvp : ¬ votes ≤ 0 := by
      rw [e2, e3']
      exact nI_nle (by omega) (by omega)
    unfold f_X12_needNow f_X12_isClosed f_X12_isOpen
    rw [u1, u2, u4, if_neg hvp, if_neg (by decide)]
    rfl
  have hres : f_X12_resultNow (nI P) (nI B) mNum U = f_X12_resultOf (nI P) mW nd 0 0 (-2) := by
    unfold f_X12_resultNow
    rw [hnn]
    exact resultOf_cong hP (fun j h1 h2 => uo j (by omega) (by omega) (by omega)) _ _ _ _
  have htu : f_X12_turnout (nI P) U = f_X12_turnout (nI P) mW := turnout_cong hP (fun j h1 h2 => uo j (by omega) (by omega) (by omega))
  have hkpe := keepsPast_eq (mNum := mNum) hP hB (mW := U) (a := a) (by rw [u1, e2, e3']; exact nI_pred a) (by omega)
  rw [hres, htu, u4, u5] at hkpe
  have hr8 : a % 8 < 8 := Nat.mod_lt _ (by decide)
  have hxr : (f_X10_resultFor plc bsk blB blC nd).1 = f_X12_resultOf (nI P) mW nd 0 0 (-2) := eq_resFor h hP blB blC nd
  have htx : f_X9_turnout plc = f_X12_turnout (nI P) mW := eq_turnout h hP
  generalize hR : f_X12_resultOf (nI P) mW nd 0 0 (-2) = R at hres hkpe hxr
  generalize hT : f_X12_turnout (nI P) mW = T at htu hkpe htx
  have hRR : ∃ c need, R = RES c need := by
    rw [← hR]
    exact resOf_RES h hP nd
  -- the closed world W
  have hWn : ∀ j, (j < 247 ∨ 279 ≤ j) → f_X12_keepsPast (nI P) (nI B) mNum U j = U j := fun j hj => by
    rw [hkpe]
    show (if j = 247 + 4 * (a % 8) + 3 then R else if j = 247 + 4 * (a % 8) + 2 then nd else if j = 247 + 4 * (a % 8) + 1 then T else if j = 247 + 4 * (a % 8) then day else U j) = U j
    rw [if_neg (by omega), if_neg (by omega), if_neg (by omega), if_neg (by omega)]
  have hresW : f_X12_resultNow (nI P) (nI B) mNum (f_X12_keepsPast (nI P) (nI B) mNum U) = R := by
    rw [resultNow_cong hP hB (fun j h1 _ => hWn j (by omega)) (fun j h1 h2 => hWn j (by omega)), hres]
  have hW66 : S_X12_close_66 mPpl mBts mNum mW = f_X12_tells (f_X12_keepsPast (nI P) (nI B) mNum U) 6 (votes - 1) (f_X12_orMinus R) := by
    unfold S_X12_close_66
    rw [hkp, hmP, hmB, hresW, hWn 1 (by omega), u1]
  rw [hW66]
  generalize hW : f_X12_keepsPast (nI P) (nI B) mNum U = W at hkpe hWn
  have ex : f_X10_endVote nums nP day votes isOpen fneed backB plc bsk pastF pastN logF logN blB blC = (T, (f_X10_resultFor plc bsk blB blC nd).2.1, (f_X10_resultFor plc bsk blB blC nd).2.2, day, nd, 0, (f_X5_add 30 logF logN day 6 (votes - 1) (f_X12_orMinus R)).2, (f_X5_add 30 logF logN day 6 (votes - 1) (f_X12_orMinus R)).1, upd (upd (upd (upd pastF (4 * (a % 8)) day) (4 * (a % 8) + 1) T) (4 * (a % 8) + 2) nd) (4 * (a % 8) + 3) R, nI (a + 1)) := by
    unfold f_X10_endVote f_X10_latestVote
    rw [hneedV, inLog_res hxr hRR, hxr, htx, e1, past_add (by omega)]
  rw [ex]
  dsimp only
  have hl1 : RLg (30 * N) logF logN W := h.l.cong (Nat.le_refl _) ((hWn 8 (by omega)).trans (uo 8 (by omega) (by omega) (by omega))) (fun j h1 h2 => (hWn j (by omega)).trans (uo j (by omega) (by omega) (by omega)))
  have w0 : W 0 = day := (hWn 0 (by omega)).trans ((uo 0 (by omega) (by omega) (by omega)).trans (rs_day h))
  have hl2 := hl1.add (by omega) w0 6 (votes - 1) (f_X12_orMinus R) (lgV h.1.1.2) (Or.inr (by decide)) (by rw [e2, e3', nI_pred]; exact lgK (by omega)) (lgR hRR)
  have htells : f_X12_turnout mPpl (f_X12_tells W 6 (votes - 1) (f_X12_orMinus R)) = T := by
    rw [hmP, turnout_cong hP (mW := mW) (fun j h1 h2 => by rw [tells_out hl1.n _ _ _ (by omega) (by omega), hWn j (by omega), uo j (by omega) (by omega) (by omega)]), hT]
  refine ⟨htells.symm, RSx.st (RSx.tells ?_ hl1.n hP hB _ _ _) (hl2.cong (by omega) rfl (fun _ _ _ => rfl)), hrem⟩
  have hj : ∀ j, j < 247 → j ≠ 2 → j ≠ 4 → j ≠ 5 → W j = mW j := fun j h1 h2 h3 h4 => (hWn j (by omega)).trans (uo j h2 h3 h4)
  obtain ⟨⟨a1, a2⟩, ⟨b1, b2⟩, ⟨d1, d2⟩, ⟨f1, f2⟩, ⟨l1, l2, l3⟩, ⟨m1, m2⟩, nn⟩ := h.1
  refine ⟨⟨⟨w0, vin_w a2 (by omega)⟩, ⟨(hWn 1 (by omega)).trans u1, vin_w b2 (by omega)⟩, ⟨(hWn 2 (by omega)).trans u2, fun q => absurd q (by decide)⟩, ⟨(hj 3 (by omega) (by omega) (by omega) (by omega)).trans f1, f2⟩, ⟨(hj 7 (by omega) (by omega) (by omega) (by omega)).trans l1, vin_w l2 (by omega), l3⟩, ⟨(hj 6 (by omega) (by omega) (by omega) (by omega)).trans m1, m2⟩, fun _ => ⟨(hWn 4 (by omega)).trans u4, (hWn 5 (by omega)).trans u5, vin_w a2 (by omega)⟩⟩, fun p hp => (h.2.1 p hp).congm (fun c hc => hj _ (by omega) (by omega) (by omega) (by omega)) (Nat.le_succ N), fun p hp hp2 => (h.2.2.1 p hp hp2).congm (fun c hc => hj _ (by omega) (by omega) (by omega) (by omega)), fun b hb => (h.2.2.2.1 b hb).congm (fun c hc => hj _ (by omega) (by omega) (by omega) (by omega)) (Nat.le_succ N), h.2.2.2.2.1, ?_⟩
  refine ⟨a + 1, v, rfl, ⟨e2, e2'⟩, e3', fun _ _ => ⟨?_, ?_⟩, fun k c h1 h2 h3 => ?_⟩
  · rw [show a + 1 - 1 = a by omega, upd_ne (by omega), upd_ne (by omega), upd_ne (by omega), upd_eq]
  · rw [show a + 1 - 1 = a by omega, upd_ne (by omega), upd_eq]
  · have hk8 : k % 8 < 8 := Nat.mod_lt _ (by decide)
    rw [hkpe]
    show (if 247 + 4 * (k % 8) + c = 247 + 4 * (a % 8) + 3 then R else if 247 + 4 * (k % 8) + c = 247 + 4 * (a % 8) + 2 then nd else if 247 + 4 * (k % 8) + c = 247 + 4 * (a % 8) + 1 then T else if 247 + 4 * (k % 8) + c = 247 + 4 * (a % 8) then day else U (247 + 4 * (k % 8) + c)) = _
    by_cases q : k = a
    · subst q
      match c, h3 with
      | 0, _ => rw [if_neg (by omega), if_neg (by omega), if_neg (by omega), if_pos (by omega), upd_ne (by omega), upd_ne (by omega), upd_ne (by omega), Nat.add_zero, upd_eq]
      | 1, _ => rw [if_neg (by omega), if_neg (by omega), if_pos (by omega), upd_ne (by omega), upd_ne (by omega), upd_eq]
      | 2, _ => rw [if_neg (by omega), if_pos (by omega), upd_ne (by omega), upd_eq]
      | 3, _ => rw [if_pos (by omega), upd_eq]
    · have hne : k % 8 ≠ a % 8 := by omega
      rw [if_neg (by omega), if_neg (by omega), if_neg (by omega), if_neg (by omega), upd_ne (by omega), upd_ne (by omega), upd_ne (by omega), upd_ne (by omega), uo _ (by omega) (by omega) (by omega)]
      exact e4 k c (by omega) (by omega) h3
end O7
