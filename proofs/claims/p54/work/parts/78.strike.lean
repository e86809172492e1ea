def VSt (q : Nat → Bool) (day : Int32) (rsn logF : Nat → Int32) (logN : Int32) (plc : Nat → Int32) : Nat → (Nat → Int32) × Int32 × (Nat → Int32) := iter_ (fun n s => if q n = true then f_X10_strike day s.2.2 rsn s.1 s.2.1 (nI n) else s) (logF, logN, plc)
theorem strike_N (day : Int32) (plc rsn logF : Nat → Int32) (logN : Int32) {o : Nat} (ho : o < 20) : f_X10_strike day plc rsn logF logN (nI o) = ((f_X5_add 30 logF logN day 4 (nI o) (rsn o)).2, (f_X5_add 30 logF logN day 4 (nI o) (rsn o)).1, upd plc o 3) := by
  unfold f_X10_strike f_X9_strike
  rw [x_rsn ho, setCell_nI (by decide) ho]
theorem vs_plc (q : Nat → Bool) (day : Int32) (rsn logF : Nat → Int32) (logN : Int32) (plc : Nat → Int32) : ∀ n, n ≤ 20 → ∀ o, (VSt q day rsn logF logN plc n).2.2 o = if o < n ∧ q o = true then 3 else plc o := by
  refine iter_inv (fun n (s : (Nat → Int32) × Int32 × (Nat → Int32)) => ∀ o, s.2.2 o = if o < n ∧ q o = true then 3 else plc o) (fun o => by rw [if_neg (by omega)]) (fun n s hn hI o => ?_)
  by_cases z : q n = true
  · rw [if_pos z, strike_N _ _ _ _ _ hn]
    show upd s.2.2 n 3 o = _
    by_cases e : o = n
    · subst e
      rw [upd_eq, if_pos ⟨by omega, z⟩]
    · rw [upd_ne e, hI o]
      by_cases w : o < n ∧ q o = true
      · rw [if_pos w, if_pos ⟨by omega, w.2⟩]
      · rw [if_neg w, if_neg (fun v => w ⟨by omega, v.2⟩)]
  · rw [if_neg z, hI o]
    by_cases w : o < n ∧ q o = true
    · rw [if_pos w, if_pos ⟨by omega, w.2⟩]
    · rw [if_neg w, if_neg (fun v => w ⟨by
        by_cases e : o = n
        · rw [e] at v
          exact absurd v.2 z
        · omega, v.2⟩)]
theorem vs_wrong (day : Int32) (rsn logF : Nat → Int32) (logN : Int32) (plc : Nat → Int32) : ∀ n, n ≤ 20 → L_X10_strikeAllWrong_9 day plc rsn logF logN n = (nI (cntB (fun o => decide (plc o = 2) && !decide (rsn o = 0)) n), VSt (fun o => decide (plc o = 2) && !decide (rsn o = 0)) day rsn logF logN plc n)
  | 0, _ => by
    refine (iter_z _ _).trans ?_
    rw [show VSt (fun o => decide (plc o = 2) && !decide (rsn o = 0)) day rsn logF logN plc 0 = _ from iter_z _ _]
    rfl
  | n + 1, hn => by
    have ih := vs_wrong day rsn logF logN plc n (by omega)
    have hp := vs_plc (fun o => decide (plc o = 2) && !decide (rsn o = 0)) day rsn logF logN plc n (by omega) n
    rw [if_neg (by omega)] at hp
    have e : L_X10_strikeAllWrong_9 day plc rsn logF logN (n + 1) = (fun (sn : Int32 × (Nat → Int32) × Int32 × (Nat → Int32)) => (bif (f_X9_isWrong (sn.2.2.2) rsn (nI n)) then ((sn.1 + 1), (f_X10_strike day (sn.2.2.2) rsn (sn.2.1) (sn.2.2.1) (nI n)).1, (f_X10_strike day (sn.2.2.2) rsn (sn.2.1) (sn.2.2.1) (nI n)).2.1, (f_X10_strike day (sn.2.2.2) rsn (sn.2.1) (sn.2.2.1) (nI n)).2.2) else (sn.1, sn.2.1, sn.2.2.1, sn.2.2.2))) (L_X10_strikeAllWrong_9 day plc rsn logF logN n) := iter_s _ _ n
    have e2 : VSt (fun o => decide (plc o = 2) && !decide (rsn o = 0)) day rsn logF logN plc (n + 1) = (fun (s : (Nat → Int32) × Int32 × (Nat → Int32)) => if (decide (plc n = 2) && !decide (rsn n = 0)) = true then f_X10_strike day s.2.2 rsn s.1 s.2.1 (nI n) else s) (VSt (fun o => decide (plc o = 2) && !decide (rsn o = 0)) day rsn logF logN plc n) := iter_s _ _ n
    rw [e, e2, ih, cntB]
    dsimp only
    have hw : f_X9_isWrong (VSt (fun o => decide (plc o = 2) && !decide (rsn o = 0)) day rsn logF logN plc n).2.2 rsn (nI n) = (decide (plc n = 2) && !decide (rsn n = 0)) := by
      unfold f_X9_isWrong
      rw [x_plc (by omega), x_rsn (by omega), hp]
      by_cases h1 : plc n = 2
      · by_cases h2 : rsn n = 0
        · simp [h1, h2]
        · simp [h1, h2]
      · simp [h1]
    rw [hw]
    cases (decide (plc n = 2) && !decide (rsn n = 0))
    · rfl
    · rw [if_pos rfl]
      simp only [cond_true]
      rw [nI_1]
theorem vs_one (day : Int32) (rsn logF : Nat → Int32) (logN : Int32) (plc : Nat → Int32) (o : Nat) : ∀ n, VSt (fun k => decide (k = o)) day rsn logF logN plc n = if o < n then f_X10_strike day plc rsn logF logN (nI o) else (logF, logN, plc)
  | 0 => by
    rw [if_neg (by omega)]
    exact iter_z _ _
  | n + 1 => by
    have ih := vs_one day rsn logF logN plc o n
    have e2 : VSt (fun k => decide (k = o)) day rsn logF logN plc (n + 1) = (fun (s : (Nat → Int32) × Int32 × (Nat → Int32)) => if decide (n = o) = true then f_X10_strike day s.2.2 rsn s.1 s.2.1 (nI n) else s) (VSt (fun k => decide (k = o)) day rsn logF logN plc n) := iter_s _ _ n
    rw [e2, ih]
    dsimp only
    by_cases q : n = o
    · rw [if_pos (decide_eq_true q), if_neg (by omega), if_pos (by omega), q]
    · rw [if_neg (by rw [decide_eq_false q]; decide)]
      by_cases z : o < n
      · rw [if_pos z, if_pos (by omega)]
      · rw [if_neg z, if_neg (by omega)]
theorem vs_ext {q : Nat → Bool} {P : Nat} (hq : ∀ n, P ≤ n → n < 20 → q n = false) (day : Int32) (rsn logF : Nat → Int32) (logN : Int32) (plc : Nat → Int32) : ∀ k, P + k ≤ 20 → VSt q day rsn logF logN plc (P + k) = VSt q day rsn logF logN plc P
  | 0, _ => rfl
  | k + 1, hk => by
    have ih := vs_ext hq day rsn logF logN plc k (by omega)
    have e2 : VSt q day rsn logF logN plc (P + k + 1) = (fun (s : (Nat → Int32) × Int32 × (Nat → Int32)) => if q (P + k) = true then f_X10_strike day s.2.2 rsn s.1 s.2.1 (nI (P + k)) else s) (VSt q day rsn logF logN plc (P + k)) := iter_s _ _ (P + k)
    rw [show P + (k + 1) = P + k + 1 from rfl, e2, ih, hq (P + k) (by omega) (by omega)]
    rfl
section O8
variable {N M P B Q A : Nat} {day votes isOpen baskets lays recs fneed clos pastN logN : Int32} {boatO seaO faultO daysO backB sailB plc car bnd bsk dyL rsn pastF logF mW mW2 : Nat → Int32}
variable {nums bNames pNames fBoats : Nat → Int32} {nB nP mPpl mBts : Int32} {mNum mNam mFst mBnm : Nat → Int32}
variable {hsN hsX mUs : Int32} {hsF : Nat → StT} {mUn : Nat → Int32}
variable {blB blC : Nat → Int32} {plc2 : Nat → Int32}
theorem cnt_23 {o : Nat} (h2 : plc o = 2) (v : Int32) (n : Nat) : cntB (fun k => (upd plc o 3 k == 2 || upd plc o 3 k == 3) && car k == v) n = cntB (fun k => (plc k == 2 || plc k == 3) && car k == v) n :=
  cntB_cong (fun k _ => by
    by_cases q : k = o
    · subst q
      rw [upd_eq, h2]
      rfl
    · rw [upd_ne q])
/-- sticks are struck, by ascending owners -/
theorem st_strikes (h : RSx M P B Q day votes isOpen baskets lays recs fneed clos boatO seaO faultO daysO backB sailB plc car bnd bsk dyL rsn pastF pastN mW) (hl : RLg A logF logN mW) (hA : A < 90000) (hP : P ≤ 20) (hB : B ≤ 6) {q : Nat → Bool} (hq : ∀ n, n < P → q n = true → plc n = 2) {x : Int32} (hx : ∀ n, n < P → ((((x >>> ((nI n) &&& 31)) &&& 1) = 1) ↔ q n = true)) : ∀ n, n ≤ P →
    (∀ o, (VSt q day rsn logF logN plc n).2.2 o = if o < n ∧ q o = true then 3 else plc o) ∧ RSx M P B Q day votes isOpen baskets lays recs fneed clos boatO seaO faultO daysO backB sailB (VSt q day rsn logF logN plc n).2.2 car bnd bsk dyL rsn pastF pastN (L_X12_strikes_7 mW x n) ∧ RLg (A + n) (VSt q day rsn logF logN plc n).1 (VSt q day rsn logF logN plc n).2.1 (L_X12_strikes_7 mW x n) := by
  refine iter2 (fun n (s : (Nat → Int32) × Int32 × (Nat → Int32)) (t : Nat → Int32) => (∀ o, s.2.2 o = if o < n ∧ q o = true then 3 else plc o) ∧ RSx M P B Q day votes isOpen baskets lays recs fneed clos boatO seaO faultO daysO backB sailB s.2.2 car bnd bsk dyL rsn pastF pastN t ∧ RLg (A + n) s.1 s.2.1 t) ⟨fun o => by rw [if_neg (by omega)], h, hl⟩ (fun n s t hn hI => ?_)
  obtain ⟨i0, i1, i2⟩ := hI
  obtain ⟨lf, ln, pl⟩ := s
  dsimp only at i0 i1 i2 ⊢
  have hn20 : n < 20 := by omega
  by_cases z : q n = true
  · rw [if_pos z, if_pos ((hx n hn).mpr z), strike_N _ _ _ _ _ hn20]
    dsimp only
    have hp2 : pl n = 2 := by
      rw [i0 n, if_neg (by omega)]
      exact hq n hn z
    obtain ⟨-, -, -, -, -, ⟨f1, f2⟩, g, -, -, k, l, m, n1, -, o2⟩ := i1.2.1 n hn
    have e1 : f_X12_sets t (nI n) 5 3 = upd t (9 + 11 * n + 5) 3 := sets_N (c := 5) hn20 (by decide)
    have e2 : f_X12_of (upd t (9 + 11 * n + 5) 3) (nI n) 10 = rsn n := by rw [of_10 hn20, upd_ne (by omega), n1.1]
    rw [e1, e2]
    have hoth : ∀ j, j ≠ 9 + 11 * n + 5 → upd t (9 + 11 * n + 5) 3 j = t j := fun j hj => upd_ne hj
    have hl1 : RLg (A + n) lf ln (upd t (9 + 11 * n + 5) 3) := i2.cong (Nat.le_refl _) (hoth 8 (by omega)) (fun j h1 h2 => hoth j (by omega))
    have hl2 := hl1.add (by omega) ((hoth 0 (by omega)).trans i1.1.1.1) 4 (nI n) (rsn n) (lgV i1.1.1.2) (Or.inr (by decide)) (lgK (by omega)) (lgV n1.2)
    refine ⟨fun o => ?_, RSx.tells ?_ hl1.n hP hB _ _ _, hl2⟩
    · show upd pl n 3 o = _
      by_cases e : o = n
      · subst e
        rw [upd_eq, if_pos ⟨by omega, z⟩]
      · rw [upd_ne e, i0 o]
        by_cases w : o < n ∧ q o = true
        · rw [if_pos w, if_pos ⟨by omega, w.2⟩]
        · rw [if_neg w, if_neg (fun v => w ⟨by omega, v.2⟩)]
    · refine RSx.stick i1 hn hP hB (Nat.le_refl M) (fun p hp => ⟨upd_ne hp, rfl, rfl, rfl, rfl, rfl⟩) ?_ (fun p hp => ?_) (fun p c hp hc hc4 hne => hoth _ (by omega)) (fun k h1 h2 => hoth k (by omega)) (i1.1.congm (fun k hk => hoth k (by omega)) (Nat.le_refl M))
      · rw [upd_eq, upd_eq, hoth _ (by omega), hoth _ (by omega), hoth _ (by omega), hoth _ (by omega), hoth _ (by omega)]
        exact ⟨⟨rfl, vin_d (by decide)⟩, g, fun w => absurd w (by decide), fun w => absurd w (by decide), k, l, m, n1, fun w => by rcases w with w | w <;> exact absurd w (by decide), fun _ => o2 (Or.inl hp2)⟩
      · rw [hoth _ (by omega), cnt_23 hp2]
        exact (i1.2.1 p hp).2.2.2.2.1
  · rw [if_neg z, if_neg (fun w => z ((hx n hn).mp w))]
    refine ⟨fun o => ?_, i1, i2.cong (by omega) rfl (fun _ _ _ => rfl)⟩
    show pl o = _
    rw [i0 o]
    by_cases w : o < n ∧ q o = true
    · rw [if_pos w, if_pos ⟨by omega, w.2⟩]
    · rw [if_neg w, if_neg (fun v => w ⟨by
        by_cases e : o = n
        · rw [e] at v
          exact absurd v.2 z
        · omega, v.2⟩)]
theorem setPart_N {r a : Nat} {f : Nat → Int32} (hr : r < a) (hr2 : a ≤ r + 8) (ha : a < 2 ^ 30) {c : Nat} (hc : c < 4) (v : Int32) : f_X5_setPart 8 f (nI a) (nI r) (nI c) v = upd f (4 * (r % 8) + c) v := by
  have hold : f_X5_oldest 8 (nI a) = nI (a - 8) := by
    unfold f_X5_oldest
    by_cases q : a < 8
    · rw [if_pos (pk_sneg (by omega) q), show a - 8 = 0 by omega]
      rfl
    · rw [pk_sub (by omega), if_neg (nI_pos (by omega))]
  have hhas : f_X5_has 8 (nI a) (nI r) = true := by
    unfold f_X5_has
    rw [hold, if_neg (nI_nlt (by omega) (by omega)), if_neg (nI_ge hr (by omega))]
  have hm : r % 8 < 8 := Nat.mod_lt _ (by decide)
  have hpl : f_X5_placeOf 8 (nI r) = nI (4 * (r % 8)) := by
    unfold f_X5_placeOf
    rw [if_pos (by decide), floorMod_nI (by omega) (by decide) (by decide), show (4 : Int32) = nI 4 from rfl, pk_mul, Nat.mul_comm]
  unfold f_X5_setPart
  rw [hhas, show f_X11_isIn (nI c) 4 = true from (isIn_eq (n := 4) (by decide)).mpr (vp_in_nI hc (by decide)), hpl, nI_add]
  exact setCell_nI (by decide) (by omega)
/-- behind strikes: the past and the log -/
theorem st_correct (h : RSx M P B Q day votes isOpen baskets lays recs fneed clos boatO seaO faultO daysO backB sailB plc car bnd bsk dyL rsn pastF pastN mW) (hl : RLg A logF logN mW) (hA : A ≤ 30 * M) (hM : M ≤ 601) (hs : RSu P B Q nums bNames pNames fBoats nB nP mPpl mBts mNum mNam mFst mBnm) (hv : ¬ votes = 0) (was : Int32) :
    RSx M P B Q day votes isOpen baskets lays recs fneed clos boatO seaO faultO daysO backB sailB plc car bnd bsk dyL rsn (f_X10_correctResult day votes isOpen fneed plc bsk pastF pastN logF logN blB blC was).2.2.2.2 pastN (bif f_X12_isOpen mW then mW else if f_X12_resultNow mPpl mBts mNum (f_X12_keepsPast mPpl mBts mNum mW) = was then f_X12_keepsPast mPpl mBts mNum mW else f_X12_tells (f_X12_keepsPast mPpl mBts mNum mW) 7 ((f_X12_keepsPast mPpl mBts mNum mW) 1 - 1) (f_X12_orMinus (f_X12_resultNow mPpl mBts mNum (f_X12_keepsPast mPpl mBts mNum mW)))) ∧
    RLg (A + 1) (f_X10_correctResult day votes isOpen fneed plc bsk pastF pastN logF logN blB blC was).2.2.1 (f_X10_correctResult day votes isOpen fneed plc bsk pastF pastN logF logN blB blC was).2.2.2.1 (bif f_X12_isOpen mW then mW else if f_X12_resultNow mPpl mBts mNum (f_X12_keepsPast mPpl mBts mNum mW) = was then f_X12_keepsPast mPpl mBts mNum mW else f_X12_tells (f_X12_keepsPast mPpl mBts mNum mW) 7 ((f_X12_keepsPast mPpl mBts mNum mW) 1 - 1) (f_X12_orMinus (f_X12_resultNow mPpl mBts mNum (f_X12_keepsPast mPpl mBts mNum mW)))) := by
  have hP := su_P hs
  have hB := hs.2.2.2.2.2.1
  have hst : RSt M P B Q day votes isOpen baskets lays recs fneed clos boatO seaO faultO daysO backB sailB plc car bnd bsk dyL rsn pastF pastN logF logN mW := RSx.st h (hl.cong hA rfl (fun _ _ _ => rfl))
  rw [rs_open hst]
  unfold f_X10_correctResult
  cases c1 : tb isOpen
  · simp only [cond_false]
    obtain ⟨a, v, e1, ⟨e2, e2'⟩, e3, e5, e4⟩ := h.2.2.2.2.2
    rw [c1] at e3
    have e3' : v = a := e3
    subst e3'
    have hv1 : 1 ≤ v := by
      rcases Nat.eq_zero_or_pos v with w | w
      · rw [w] at e2
        exact absurd e2 hv
      · exact w
    have hlv : f_X10_latestVote votes = nI (v - 1) := by
      unfold f_X10_latestVote
      rw [e2, show (1 : Int32) = nI 1 from rfl, pk_sub hv1]
    obtain ⟨g1, g2⟩ := e5 c1 (by omega)
    obtain ⟨g4, g5, g6⟩ := h.1.2.2.2.2.2.2 c1
    have hkpe := keepsPast_eq (mNum := mNum) hP hB (mW := mW) (a := v - 1) (by rw [rs_votes hst, e2, show (1 : Int32) = nI 1 from rfl, pk_sub hv1]) (by omega)
    have hvp : ¬ votes ≤ 0 := by
      rw [e2]
      exact nI_nle (by omega) (by omega)
    have hnn : f_X12_needNow (nI P) (nI B) mNum mW = fneed := by
      unfold f_X12_needNow
      rw [rs_closed hst, c1, decide_eq_false hvp]
      exact g4
    have hres : f_X12_resultNow (nI P) (nI B) mNum mW = f_X12_resultOf (nI P) mW fneed 0 0 (-2) := by
      unfold f_X12_resultNow
      rw [hnn]
    have hxr : (f_X10_resultFor plc bsk blB blC fneed).1 = f_X12_resultOf (nI P) mW fneed 0 0 (-2) := eq_resFor hst hP blB blC fneed
    have htx : f_X9_turnout plc = f_X12_turnout (nI P) mW := eq_turnout hst hP
    have hRR := resOf_RES hst hP fneed
    rw [hres, g4, g5] at hkpe
    generalize hR : f_X12_resultOf (nI P) mW fneed 0 0 (-2) = R at hres hkpe hxr hRR
    generalize hT : f_X12_turnout (nI P) mW = T at hkpe htx
    have hr8 : (v - 1) % 8 < 8 := Nat.mod_lt _ (by decide)
    have hWn : ∀ j, (j < 247 ∨ 279 ≤ j) → f_X12_keepsPast (nI P) (nI B) mNum mW j = mW j := fun j hj => by
      rw [hkpe]
      show (if j = 247 + 4 * ((v - 1) % 8) + 3 then R else if j = 247 + 4 * ((v - 1) % 8) + 2 then fneed else if j = 247 + 4 * ((v - 1) % 8) + 1 then T else if j = 247 + 4 * ((v - 1) % 8) then clos else mW j) = mW j
      rw [if_neg (by omega), if_neg (by omega), if_neg (by omega), if_neg (by omega)]
    have hresW : f_X12_resultNow (nI P) (nI B) mNum (f_X12_keepsPast (nI P) (nI B) mNum mW) = R := by
      rw [resultNow_cong hP hB (fun j h1 _ => hWn j (by omega)) (fun j h1 h2 => hWn j (by omega)), hres]
    have hsp : f_X5_setPart 8 (f_X5_setPart 8 pastF pastN (nI (v - 1)) 1 T) pastN (nI (v - 1)) 3 R = upd (upd pastF (4 * ((v - 1) % 8) + 1) T) (4 * ((v - 1) % 8) + 3) R := by
      rw [e1, show f_X5_setPart 8 pastF (nI v) (nI (v - 1)) 1 T = _ from setPart_N (c := 1) (by omega) (by omega) (by omega) (by decide) T]
      exact setPart_N (c := 3) (by omega) (by omega) (by omega) (by decide) R
    rw [hs.2.1, hs.2.2.2.1, hresW, hlv, hxr, htx, hsp, hWn 1 (by omega), rs_votes hst, e2, show nI v - 1 = nI (v - 1) from pk_sub (b := 1) hv1]
    have base : RSx M P B Q day (nI v) isOpen baskets lays recs fneed clos boatO seaO faultO daysO backB sailB plc car bnd bsk dyL rsn (upd (upd pastF (4 * ((v - 1) % 8) + 1) T) (4 * ((v - 1) % 8) + 3) R) pastN (f_X12_keepsPast (nI P) (nI B) mNum mW) := by
      rw [← e2]
      refine ⟨h.1.congm (fun j hj => hWn j (by omega)) (Nat.le_refl M), fun p hp => (h.2.1 p hp).congm (fun c hc => hWn _ (by omega)) (Nat.le_refl M), fun p hp hp2 => (h.2.2.1 p hp hp2).congm (fun c hc => hWn _ (by omega)), fun b hb => (h.2.2.2.1 b hb).congm (fun c hc => hWn _ (by omega)) (Nat.le_refl M), h.2.2.2.2.1, ?_⟩
      refine ⟨v, v, e1, ⟨e2, e2'⟩, by rw [c1]; rfl, fun _ _ => ⟨?_, ?_⟩, fun k c h1 h2 h3 => ?_⟩
      · rw [upd_ne (by omega), upd_ne (by omega)]
        exact g1
      · rw [upd_ne (by omega), upd_ne (by omega)]
        exact g2
      · have hk8 : k % 8 < 8 := Nat.mod_lt _ (by decide)
        rw [hkpe]
        show (if 247 + 4 * (k % 8) + c = 247 + 4 * ((v - 1) % 8) + 3 then R else if 247 + 4 * (k % 8) + c = 247 + 4 * ((v - 1) % 8) + 2 then fneed else if 247 + 4 * (k % 8) + c = 247 + 4 * ((v - 1) % 8) + 1 then T else if 247 + 4 * (k % 8) + c = 247 + 4 * ((v - 1) % 8) then clos else mW (247 + 4 * (k % 8) + c)) = _
        by_cases q : k = v - 1
        · subst q
          match c, h3 with
          | 0, _ => rw [if_neg (by omega), if_neg (by omega), if_neg (by omega), if_pos (by omega), upd_ne (by omega), upd_ne (by omega), Nat.add_zero, g1]
          | 1, _ => rw [if_neg (by omega), if_neg (by omega), if_pos (by omega), upd_ne (by omega), upd_eq]
          | 2, _ => rw [if_neg (by omega), if_pos (by omega), upd_ne (by omega), upd_ne (by omega), g2]
          | 3, _ => rw [if_pos (by omega), upd_eq]
        · have hne : k % 8 ≠ (v - 1) % 8 := by omega
          rw [if_neg (by omega), if_neg (by omega), if_neg (by omega), if_neg (by omega), upd_ne (by omega), upd_ne (by omega)]
          exact e4 k c h1 h2 h3
    have hl1 : RLg A logF logN (f_X12_keepsPast (nI P) (nI B) mNum mW) := hl.cong (Nat.le_refl _) (hWn 8 (by omega)) (fun j h1 h2 => hWn j (by omega))
    by_cases q : R = was
    · simp only [if_pos q]
      exact ⟨base, hl1.cong (by omega) rfl (fun _ _ _ => rfl)⟩
    · simp only [if_neg q]
      have hin : f_X10_inLog R = f_X12_orMinus R := inLog_res rfl hRR
      rw [hin]
      exact ⟨RSx.tells base hl1.n hP hB _ _ _, hl1.add (by omega) ((hWn 0 (by omega)).trans (rs_day hst)) _ _ _ (lgV h.1.1.2) (Or.inr (by decide)) (lgK (by omega)) (lgR hRR)⟩
  · simp only [cond_true]
    exact ⟨h, hl.cong (by omega) rfl (fun _ _ _ => rfl)⟩
end O8
