theorem sel3 {α : Type} {a : Prop} [Decidable a] {b : Bool} (h : b = true ∨ a) (E R : α) : (bif b then E else if a then E else R) = E := by
  cases q : b
  · rcases h with z | z
    · rw [q] at z
      exact absurd z (by decide)
    · show (if a then E else R) = E
      rw [if_pos z]
  · rfl
theorem sel4 {α : Type} {a : Prop} [Decidable a] {b : Bool} (h : ¬ (b = true ∨ a)) (E F R : α) : (bif b then E else if a then F else R) = R := by
  cases q : b
  · show (if a then F else R) = R
    rw [if_neg (fun z => h (Or.inr z))]
  · exact absurd (Or.inl q) h
section O9
variable {N M P B Q A : Nat} {day votes isOpen baskets lays recs fneed clos pastN logN : Int32} {boatO seaO faultO daysO backB sailB plc car bnd bsk dyL rsn pastF logF mW mW2 : Nat → Int32}
variable {nums bNames pNames fBoats : Nat → Int32} {nB nP mPpl mBts : Int32} {mNum mNam mFst mBnm : Nat → Int32}
variable {hsN hsX mUs : Int32} {hsF : Nat → StT} {mUn : Nat → Int32}
variable {blB blC : Nat → Int32} {faultO2 : Nat → Int32}
theorem in_time (h : RSt N P B Q day votes isOpen baskets lays recs fneed clos boatO seaO faultO daysO backB sailB plc car bnd bsk dyL rsn pastF pastN logF logN mW) (hs : RSu P B Q nums bNames pNames fBoats nB nP mPpl mBts mNum mNam mFst mBnm) (hN : N ≤ 600) : f_X12_isInTime mNum mW = true ↔ (tb isOpen = true ∨ f_X10_stateOfVote nums day votes isOpen clos = 2) := by
  rw [eq_stateOf h hs hN]
  unfold f_X12_stateOf f_X12_isInTime
  rw [rs_open h, rs_closed h, rs_votes h]
  cases c1 : tb isOpen
  · have hle := vin_le0 h.1.2.1.2
    simp only [cond_false, hle]
    by_cases q : votes = 0
    · rw [decide_eq_true q, if_pos q]
      exact ⟨fun z => absurd (show false = true from z) (by decide), fun z => by rcases z with z | z <;> exact absurd z (by decide)⟩
    · rw [decide_eq_false q, if_neg q]
      show (if mNum 8 < mW 0 - mW 5 then false else true) = true ↔ (false = true ∨ (bif (if mNum 8 < mW 0 - mW 5 then false else true) then (2 : Int32) else 3) = 2)
      by_cases z : mNum 8 < mW 0 - mW 5
      · rw [if_pos z]
        exact ⟨fun w => absurd w (by decide), fun w => by rcases w with w | w <;> exact absurd w (by decide)⟩
      · rw [if_neg z]
        exact ⟨fun _ => Or.inr rfl, fun _ => rfl⟩
  · exact ⟨fun _ => Or.inl rfl, fun _ => rfl⟩
theorem RPe.fault {p : Nat} (h : RPe N P B votes boatO seaO faultO daysO backB plc car bnd bsk dyL rsn mW p) (hf : mW2 (9 + 11 * p + 2) = faultO2 p ∧ vp_in (faultO2 p) 4) (hm : ∀ c, c ≠ 2 → c < 11 → mW2 (9 + 11 * p + c) = mW (9 + 11 * p + c)) (hN : N ≤ M) : RPe M P B votes boatO seaO faultO2 daysO backB plc car bnd bsk dyL rsn mW2 p := by
  obtain ⟨⟨a1, a2⟩, b, -, ⟨d1, d2⟩, e, ⟨f1, f2⟩, ⟨g1, g2, g3⟩, i1, i2, ⟨k1, k2⟩, l, m, ⟨n1, n2⟩, o1, o2⟩ := h
  refine ⟨⟨(hm 0 (by decide) (by decide)).trans a1, a2⟩, ?_, hf, ⟨(hm 3 (by decide) (by decide)).trans d1, vin_w d2 (by omega)⟩, (hm 4 (by decide) (by decide)).trans e, ⟨(hm 5 (by decide) (by decide)).trans f1, f2⟩, ⟨(hm 6 (by decide) (by decide)).trans g1, g2, g3⟩, i1, i2, ⟨(hm 7 (by decide) (by decide)).trans k1, k2⟩, (hm 8 (by decide) (by decide)).trans l, (hm 9 (by decide) (by decide)).trans m, ⟨(hm 10 (by decide) (by decide)).trans n1, n2⟩, o1, o2⟩
  rw [hm 1 (by decide) (by decide)]
  exact b
theorem st_contest (h : RSt N P B Q day votes isOpen baskets lays recs fneed clos boatO seaO faultO daysO backB sailB plc car bnd bsk dyL rsn pastF pastN logF logN mW) (hs : RSu P B Q nums bNames pNames fBoats nB nP mPpl mBts mNum mNam mFst mBnm) (hh : RHi N P B Q hsN hsX hsF mUs mUn) (hN : N ≤ 600) (x y : Int32) : (f_X11_contest nums nP day votes isOpen baskets lays recs fneed clos boatO seaO faultO daysO backB sailB plc car bnd bsk dyL rsn pastF pastN logF logN blB blC hsN hsX hsF x y).1 = (f_X12_contest mPpl mBts mUs mNum mW mUn x y).1 ∧ RSt (N + 1) P B Q day votes isOpen baskets lays recs fneed clos boatO seaO ((f_X11_contest nums nP day votes isOpen baskets lays recs fneed clos boatO seaO faultO daysO backB sailB plc car bnd bsk dyL rsn pastF pastN logF logN blB blC hsN hsX hsF x y).2.2.2.1) daysO backB sailB ((f_X11_contest nums nP day votes isOpen baskets lays recs fneed clos boatO seaO faultO daysO backB sailB plc car bnd bsk dyL rsn pastF pastN logF logN blB blC hsN hsX hsF x y).2.2.2.2.2.2.2.2.2.2) car bnd bsk dyL rsn ((f_X11_contest nums nP day votes isOpen baskets lays recs fneed clos boatO seaO faultO daysO backB sailB plc car bnd bsk dyL rsn pastF pastN logF logN blB blC hsN hsX hsF x y).2.2.2.2.2.2.2.2.2.1) pastN ((f_X11_contest nums nP day votes isOpen baskets lays recs fneed clos boatO seaO faultO daysO backB sailB plc car bnd bsk dyL rsn pastF pastN logF logN blB blC hsN hsX hsF x y).2.2.2.2.2.2.2.1) ((f_X11_contest nums nP day votes isOpen baskets lays recs fneed clos boatO seaO faultO daysO backB sailB plc car bnd bsk dyL rsn pastF pastN logF logN blB blC hsN hsX hsF x y).2.2.2.2.2.2.2.2.1) ((f_X12_contest mPpl mBts mUs mNum mW mUn x y).2.2.2) ∧ RHi (N + 1) P B Q ((f_X11_contest nums nP day votes isOpen baskets lays recs fneed clos boatO seaO faultO daysO backB sailB plc car bnd bsk dyL rsn pastF pastN logF logN blB blC hsN hsX hsF x y).2.2.2.2.2.1) ((f_X11_contest nums nP day votes isOpen baskets lays recs fneed clos boatO seaO faultO daysO backB sailB plc car bnd bsk dyL rsn pastF pastN logF logN blB blC hsN hsX hsF x y).2.2.2.2.2.2.1) ((f_X11_contest nums nP day votes isOpen baskets lays recs fneed clos boatO seaO faultO daysO backB sailB plc car bnd bsk dyL rsn pastF pastN logF logN blB blC hsN hsX hsF x y).2.2.2.2.1) ((f_X12_contest mPpl mBts mUs mNum mW mUn x y).2.2.1) ((f_X12_contest mPpl mBts mUs mNum mW mUn x y).2.1) := by
  have hP := su_P hs
  have hB := hs.2.2.2.2.2.1
  unfold f_X11_contest f_X12_contest S_X11_contest_103 S_X11_contest_103a S_X11_contest_112 S_X11_contest_112a
  rw [eq_isPerson hs, eq_isPerson hs]
  cases c1 : f_X12_isPerson mPpl x
  · simp only [cond_false]
    exact ⟨trivial, h.mono (Nat.le_succ N) hP hB, hh.mono (Nat.le_succ N) hP hB⟩
  cases c2 : f_X12_isPerson mPpl y
  · simp only [cond_true, cond_false]
    exact ⟨trivial, h.mono (Nat.le_succ N) hP hB, hh.mono (Nat.le_succ N) hP hB⟩
  obtain ⟨i, rfl, hi⟩ := person_n hs c1
  obtain ⟨o, rfl, ho⟩ := person_n hs c2
  have e5 : f_X12_of mW (nI o) 5 = plc o := (of_5 (by omega)).trans (rs_plc h ho)
  have e10 : f_X12_of mW (nI o) 10 = rsn o := (of_10 (by omega)).trans (rs_rsn h ho)
  have e2 : f_X12_of mW (nI i) 2 = faultO i := (of_2 (by omega)).trans (rs_faultO h hi)
  rw [eq_sea h hP hi, x_plc (by omega), x_faultO (by omega), e5, e10, e2]
  simp only [cond_true]
  cases f_X12_isAtSea mW (nI i)
  · simp only [cond_false]
    by_cases q2 : plc o = 2
    · simp only [if_pos q2]
      have hf4 : vp_in (faultO i) 4 := (h.2.1 i hi).2.2.1.2
      obtain ⟨ef, hf⟩ := vin_nI hf4
      by_cases q3 : faultO i < 3
      · have q3' : ¬ faultO i = 3 := fun z => by
          rw [z] at q3
          exact absurd q3 (by decide)
        simp only [if_pos q3, if_neg q3']
        by_cases q4 : tb isOpen = true ∨ f_X10_stateOfVote nums day votes isOpen clos = 2
        · have hit := (in_time h hs hN).mpr q4
          simp only [sel3 q4, hit, cond_true]
          have hrem := ((hh.rem (t := (day, votes, isOpen, baskets, lays, recs, fneed, clos, boatO, seaO, faultO, daysO, backB, sailB, plc, car, bnd, bsk, dyL, rsn, pastF, pastN, logF, logN)) h hP hB).mono (Nat.le_succ N) hP hB)
          have hr4 : vp_in (rsn o) 4 := (h.2.1 o ho).2.2.2.2.2.2.2.2.2.2.2.2.1.2
          have hle := vin_le0 hr4
          unfold f_X10_judge
          rw [x_rsn (by omega)]
          by_cases q5 : rsn o = 0
          · have q5' : rsn o ≤ 0 := by
              rw [q5]
              decide
            simp only [if_pos q5, if_pos q5']
            have eA : f_X2_addFault faultO (nI i) = upd faultO i (faultO i + 1) := by
              unfold f_X2_addFault
              rw [x_faultO (by omega)]
              exact setCell_nI (by decide) (by omega)
            have eS : f_X12_sets mW (nI i) 2 (faultO i + 1) = upd mW (9 + 11 * i + 2) (faultO i + 1) := sets_N (c := 2) (by omega) (by decide)
            have eO : f_X12_of (upd mW (9 + 11 * i + 2) (faultO i + 1)) (nI i) 2 = faultO i + 1 := by rw [of_2 (by omega), upd_eq]
            rw [eA, eS, eO, x_faultO (by omega), upd_eq]
            have hoth : ∀ j, j ≠ 9 + 11 * i + 2 → upd mW (9 + 11 * i + 2) (faultO i + 1) j = mW j := fun j hj => upd_ne hj
            have hl1 : RLg (30 * N) logF logN (upd mW (9 + 11 * i + 2) (faultO i + 1)) := h.l.cong (Nat.le_refl _) (hoth 8 (by omega)) (fun j h1 h2 => hoth j (by omega))
            have hl2 := hl1.add (by omega) ((hoth 0 (by omega)).trans (rs_day h)) 5 (nI i) (faultO i + 1) (lgV h.1.1.2) (Or.inr (by decide)) (lgK (by omega)) (by rw [ef, nI_1]; exact lgK (by omega))
            refine ⟨q5.symm, RSx.st (RSx.tells ?_ hl1.n hP hB _ _ _) (hl2.cong (by omega) rfl (fun _ _ _ => rfl)), hrem⟩
            refine ⟨h.1.congm (fun j hj => hoth j (by omega)) (Nat.le_succ N), fun p hp => ?_, fun p hp hp2 => ?_, fun b hb => (h.2.2.2.1 b hb).congm (fun c hc => hoth _ (by omega)) (Nat.le_succ N), h.2.2.2.2.1, h.2.2.2.2.2.1.congm (fun j h1 h2 => hoth j (by omega))⟩
            · by_cases w : p = i
              · subst w
                refine (h.2.1 p hp).fault ⟨?_, ?_⟩ (fun c h1 h2 => hoth _ (by omega)) (Nat.le_succ N)
                · rw [upd_eq, upd_eq]
                · rw [upd_eq]
                  generalize (faultO p).toNatClampNeg = k at ef hf
                  rw [ef] at q3
                  rw [ef, nI_1]
                  have := (nI_ltI (b := 3) (by omega) (by omega)).mp q3
                  exact vp_in_nI (by omega) (by omega)
              · exact (h.2.1 p hp).cong rfl rfl (upd_ne w) rfl rfl rfl rfl rfl rfl rfl rfl (fun _ q => q) (fun q => q) (fun c hc => hoth _ (by omega)) (Nat.le_succ N)
            · obtain ⟨a1, a2, a3, a4, a5, a6, a7, a8, a9, a10⟩ := h.2.2.1 p hp hp2
              refine ⟨a1, a2, ?_, a4, a5, a6, a7, a8, a9, fun c hc => (hoth _ (by omega)).trans (a10 c hc)⟩
              rw [upd_ne (by omega)]
              exact a3
          · have q5' : ¬ rsn o ≤ 0 := fun z => by
              rw [decide_eq_true z] at hle
              exact q5 (of_decide_eq_true hle.symm)
            simp only [if_neg q5, if_neg q5']
            have hwas := eq_resNow h hs hN blB blC
            rw [hwas]
            have hx : ∀ n, n < P → (((((1 : Int32) <<< (nI o &&& 31)) >>> ((nI n) &&& 31)) &&& 1) = 1 ↔ decide (n = o) = true) := fun n hn => by
              rw [one_shl o (by omega), bit_nI (Nat.lt_of_le_of_lt (Nat.pow_le_pow_right (by decide) (show o ≤ 20 by omega)) (by decide)) (by omega), Nat.testBit_two_pow]
              by_cases w : n = o
              · rw [decide_eq_true w, decide_eq_true w.symm]
                exact ⟨fun _ => rfl, fun _ => rfl⟩
              · rw [decide_eq_false w, decide_eq_false (fun z => w z.symm)]
                exact ⟨fun z => absurd z (by decide), fun z => absurd z (by decide)⟩
            obtain ⟨-, k1, k2⟩ := st_strikes (M := N + 1) (A := 30 * N) (q := fun n => decide (n = o)) (h.x.congm (fun _ _ _ => rfl) (Nat.le_succ N) hP hB) h.l (by omega) hP hB (fun n hn hq => by rw [of_decide_eq_true hq]; exact q2) hx P (Nat.le_refl _)
            rw [vs_one, if_pos ho] at k1 k2
            have hv0 : ¬ votes = 0 := (rs_lain h (by omega) q2).2.2
            generalize hW : L_X12_strikes_7 mW ((1 : Int32) <<< (nI o &&& 31)) P = W at k1 k2
            generalize hS : f_X10_strike day plc rsn logF logN (nI o) = S at k1 k2 ⊢
            have hfin := st_correct (blB := (f_X10_resultNow nums nP day votes isOpen fneed backB plc bsk blB blC).2.1) (blC := (f_X10_resultNow nums nP day votes isOpen fneed backB plc bsk blB blC).2.2) k1 k2 (by omega) (by omega) hs hv0 (f_X12_resultNow mPpl mBts mNum mW)
            have em : f_X12_strikes mPpl mBts mNum mW ((1 : Int32) <<< (nI o &&& 31)) = (bif f_X12_isOpen W then W else if f_X12_resultNow mPpl mBts mNum (f_X12_keepsPast mPpl mBts mNum W) = f_X12_resultNow mPpl mBts mNum mW then f_X12_keepsPast mPpl mBts mNum W else f_X12_tells (f_X12_keepsPast mPpl mBts mNum W) 7 ((f_X12_keepsPast mPpl mBts mNum W) 1 - 1) (f_X12_orMinus (f_X12_resultNow mPpl mBts mNum (f_X12_keepsPast mPpl mBts mNum W)))) := by
              unfold f_X12_strikes
              rw [show mPpl.toNatClampNeg = P by rw [hs.2.1, nI_clamp (by omega)], hW]
            rw [em]
            exact ⟨trivial, hfin.1.st (hfin.2.cong (by omega) rfl (fun _ _ _ => rfl)), hrem⟩
        · have hit : f_X12_isInTime mNum mW = false := by
            cases w : f_X12_isInTime mNum mW
            · rfl
            · exact absurd ((in_time h hs hN).mp w) q4
          simp only [sel4 q4, hit, cond_false]
          exact ⟨trivial, h.mono (Nat.le_succ N) hP hB, hh.mono (Nat.le_succ N) hP hB⟩
      · have q3' : faultO i = 3 := by
          generalize (faultO i).toNatClampNeg = k at ef hf
          rw [ef] at q3 ⊢
          have : ¬ k < 3 := fun z => q3 (nI_lt (b := 3) z (by omega))
          rw [show k = 3 by omega]
          rfl
        simp only [if_neg q3, if_pos q3']
        exact ⟨trivial, h.mono (Nat.le_succ N) hP hB, hh.mono (Nat.le_succ N) hP hB⟩
    · simp only [if_neg q2]
      exact ⟨trivial, h.mono (Nat.le_succ N) hP hB, hh.mono (Nat.le_succ N) hP hB⟩
  · simp only [cond_true]
    exact ⟨trivial, h.mono (Nat.le_succ N) hP hB, hh.mono (Nat.le_succ N) hP hB⟩
theorem st_recount (h : RSt N P B Q day votes isOpen baskets lays recs fneed clos boatO seaO faultO daysO backB sailB plc car bnd bsk dyL rsn pastF pastN logF logN mW) (hs : RSu P B Q nums bNames pNames fBoats nB nP mPpl mBts mNum mNam mFst mBnm) (hh : RHi N P B Q hsN hsX hsF mUs mUn) (hN : N ≤ 600) : (f_X11_recount nums nP day votes isOpen baskets lays recs fneed clos boatO seaO faultO daysO backB sailB plc car bnd bsk dyL rsn pastF pastN logF logN blB blC hsN hsX hsF).1 = (f_X12_recount mPpl mBts mUs mNum mW mUn).1 ∧ RSt (N + 1) P B Q day votes isOpen baskets lays ((f_X11_recount nums nP day votes isOpen baskets lays recs fneed clos boatO seaO faultO daysO backB sailB plc car bnd bsk dyL rsn pastF pastN logF logN blB blC hsN hsX hsF).2.2.2.2.2.2.2.2.2.2) fneed clos boatO seaO faultO daysO backB sailB ((f_X11_recount nums nP day votes isOpen baskets lays recs fneed clos boatO seaO faultO daysO backB sailB plc car bnd bsk dyL rsn pastF pastN logF logN blB blC hsN hsX hsF).2.2.2.2.2.2.2.2.2.1) car bnd bsk dyL rsn ((f_X11_recount nums nP day votes isOpen baskets lays recs fneed clos boatO seaO faultO daysO backB sailB plc car bnd bsk dyL rsn pastF pastN logF logN blB blC hsN hsX hsF).2.2.2.2.2.2.2.2.1) pastN ((f_X11_recount nums nP day votes isOpen baskets lays recs fneed clos boatO seaO faultO daysO backB sailB plc car bnd bsk dyL rsn pastF pastN logF logN blB blC hsN hsX hsF).2.2.2.2.2.2.1) ((f_X11_recount nums nP day votes isOpen baskets lays recs fneed clos boatO seaO faultO daysO backB sailB plc car bnd bsk dyL rsn pastF pastN logF logN blB blC hsN hsX hsF).2.2.2.2.2.2.2.1) ((f_X12_recount mPpl mBts mUs mNum mW mUn).2.2.2) ∧ RHi (N + 1) P B Q ((f_X11_recount nums nP day votes isOpen baskets lays recs fneed clos boatO seaO faultO daysO backB sailB plc car bnd bsk dyL rsn pastF pastN logF logN blB blC hsN hsX hsF).2.2.2.2.1) ((f_X11_recount nums nP day votes isOpen baskets lays recs fneed clos boatO seaO faultO daysO backB sailB plc car bnd bsk dyL rsn pastF pastN logF logN blB blC hsN hsX hsF).2.2.2.2.2.1) ((f_X11_recount nums nP day votes isOpen baskets lays recs fneed clos boatO seaO faultO daysO backB sailB plc car bnd bsk dyL rsn pastF pastN logF logN blB blC hsN hsX hsF).2.2.2.1) ((f_X12_recount mPpl mBts mUs mNum mW mUn).2.2.1) ((f_X12_recount mPpl mBts mUs mNum mW mUn).2.1) := by
  have hP := su_P hs
  have hB := hs.2.2.2.2.2.1
  unfold f_X11_recount f_X12_recount S_X11_recount_44 S_X11_recount_51
  have hit := in_time h hs hN
  have e9 : f_X7_numberOf nums 9 = mNum 9 := su_num hs (i := 9) (by decide)
  rw [rs_closed h, e9]
  by_cases q1 : f_X10_stateOfVote nums day votes isOpen clos = 2
  · have hcl : tb isOpen = false ∧ ¬ votes = 0 := by
      rw [eq_stateOf h hs hN] at q1
      unfold f_X12_stateOf at q1
      rw [rs_open h, rs_votes h] at q1
      by_cases w : votes = 0
      · rw [if_pos w] at q1
        exact absurd q1 (by decide)
      · rw [if_neg w] at q1
        cases v : tb isOpen
        · exact ⟨rfl, w⟩
        · rw [v] at q1
          exact absurd (show (1 : Int32) = 2 from q1) (by decide)
    have hle := vin_le0 h.1.2.1.2
    rw [decide_eq_false hcl.2] at hle
    have hcl2 : (!decide (votes ≤ 0) && !tb isOpen) = true := by
      rw [hle, hcl.1]
      rfl
    rw [hcl2, hit.mpr (Or.inr q1)]
    simp only [if_pos q1, cond_true]
    have em6 : mW 6 = recs := h.1.2.2.2.2.2.1.1
    have hrq := h.1.2.2.2.2.2.1.2
    obtain ⟨hn9, hQ⟩ := hs.2.2.2.2.2.2.2.2.2.2.2.2.2.1
    obtain ⟨e9', h9'⟩ := vin_nI hn9
    obtain ⟨er, hr⟩ := vin_nI hrq
    rw [em6]
    by_cases q2 : recs < mNum 9
    · have q2' : ¬ recs = mNum 9 := fun z => by
        rw [z] at q2
        exact absurd (Int32.lt_iff_toInt_lt.mp q2) (by omega)
      simp only [if_pos q2, if_neg q2']
      have hrem := ((hh.rem (t := (day, votes, isOpen, baskets, lays, recs, fneed, clos, boatO, seaO, faultO, daysO, backB, sailB, plc, car, bnd, bsk, dyL, rsn, pastF, pastN, logF, logN)) h hP hB).mono (Nat.le_succ N) hP hB)
      have hoth : ∀ j, j ≠ 6 → upd mW 6 (recs + 1) j = mW j := fun j hj => upd_ne hj
      have hx1 : RSx N P B Q day votes isOpen baskets lays (recs + 1) fneed clos boatO seaO faultO daysO backB sailB plc car bnd bsk dyL rsn pastF pastN (upd mW 6 (recs + 1)) := by
        obtain ⟨⟨a1, a2⟩, ⟨b1, b2⟩, ⟨d1, d2⟩, ⟨f1, f2⟩, ⟨l1, l2, l3⟩, -, nn⟩ := h.1
        refine ⟨⟨⟨(hoth 0 (by omega)).trans a1, a2⟩, ⟨(hoth 1 (by omega)).trans b1, b2⟩, ⟨(hoth 2 (by omega)).trans d1, d2⟩, ⟨(hoth 3 (by omega)).trans f1, f2⟩, ⟨(hoth 7 (by omega)).trans l1, l2, l3⟩, ⟨upd_eq, ?_⟩, fun w => ⟨(hoth 4 (by omega)).trans (nn w).1, (hoth 5 (by omega)).trans (nn w).2.1, (nn w).2.2⟩⟩, fun p hp => (h.2.1 p hp).congm (fun c hc => hoth _ (by omega)) (Nat.le_refl N), fun p hp hp2 => (h.2.2.1 p hp hp2).congm (fun c hc => hoth _ (by omega)), fun b hb => (h.2.2.2.1 b hb).congm (fun c hc => hoth _ (by omega)) (Nat.le_refl N), h.2.2.2.2.1, h.2.2.2.2.2.1.congm (fun j h1 h2 => hoth j (by omega))⟩
        rw [hQ]
        generalize recs.toNatClampNeg = k at er hr
        generalize (mNum 9).toNatClampNeg = k9 at e9' h9' hQ ⊢
        rw [er, e9'] at q2
        have := (nI_ltI (by omega) (by omega)).mp q2
        rw [er, nI_1]
        exact vp_in_nI (by omega) (by omega)
      have hl1 : RLg (30 * N) logF logN (upd mW 6 (recs + 1)) := h.l.cong (Nat.le_refl _) (hoth 8 (by omega)) (fun j h1 h2 => hoth j (by omega))
      have hst1 := RSx.st hx1 hl1
      have hwas := eq_resNow hst1 hs hN blB blC
      have hwr := eq_wrong hst1 hP
      rw [x_wrong] at hwr
      have hmP := hs.2.1
      rw [← hmP] at hwr
      rw [← hwr]
      have hx : ∀ n, n < P → (((((nI (mskB (fun o => decide (plc o = 2) && !decide (rsn o = 0)) 20)) >>> ((nI n) &&& 31)) &&& 1) = 1) ↔ (decide (plc n = 2) && !decide (rsn n = 0)) = true) := fun n hn => by
        rw [bit_nI (Nat.lt_of_lt_of_le (mskB_lt _ 20) (by decide)) (by omega), mskB_bit20 _ (by omega)]
        cases (decide (plc n = 2) && !decide (rsn n = 0))
        · exact ⟨fun z => absurd z (by decide), fun z => absurd z (by decide)⟩
        · exact ⟨fun _ => rfl, fun _ => rfl⟩
      have hx2 : RSx (N + 1) P B Q day votes isOpen baskets lays (recs + 1) fneed clos boatO seaO faultO daysO backB sailB plc car bnd bsk dyL rsn pastF pastN (upd mW 6 (recs + 1)) := hx1.congm (fun _ _ _ => rfl) (Nat.le_succ N) hP hB
      obtain ⟨-, k1, k2⟩ := st_strikes (M := N + 1) (A := 30 * N) (q := fun o => decide (plc o = 2) && !decide (rsn o = 0)) hx2 hl1 (by omega) hP hB (fun n hn hq => of_decide_eq_true ((Bool.and_eq_true _ _).mp hq).1) hx P (Nat.le_refl _)
      have hext := vs_ext (q := fun o => decide (plc o = 2) && !decide (rsn o = 0)) (P := P) (fun n h1 h2 => by rw [rs_plc_no h h1 h2]; rfl) day rsn logF logN plc (20 - P) (by omega)
      rw [show P + (20 - P) = 20 by omega] at hext
      have hvw := vs_wrong day rsn logF logN plc 20 (Nat.le_refl _)
      rw [hext] at hvw
      unfold f_X10_strikeAllWrong
      rw [hvw, hwas]
      dsimp only
      generalize hW : L_X12_strikes_7 (upd mW 6 (recs + 1)) (nI (mskB (fun o => decide (plc o = 2) && !decide (rsn o = 0)) 20)) P = W at k1 k2
      generalize VSt (fun o => decide (plc o = 2) && !decide (rsn o = 0)) day rsn logF logN plc P = S at k1 k2 ⊢
      have hfin := st_correct (blB := (f_X10_resultNow nums nP day votes isOpen fneed backB plc bsk blB blC).2.1) (blC := (f_X10_resultNow nums nP day votes isOpen fneed backB plc bsk blB blC).2.2) k1 k2 (by omega) (by omega) hs hcl.2 (f_X12_resultNow mPpl mBts mNum (upd mW 6 (recs + 1)))
      have em : f_X12_strikes mPpl mBts mNum (upd mW 6 (recs + 1)) (nI (mskB (fun o => decide (plc o = 2) && !decide (rsn o = 0)) 20)) = (bif f_X12_isOpen W then W else if f_X12_resultNow mPpl mBts mNum (f_X12_keepsPast mPpl mBts mNum W) = f_X12_resultNow mPpl mBts mNum (upd mW 6 (recs + 1)) then f_X12_keepsPast mPpl mBts mNum W else f_X12_tells (f_X12_keepsPast mPpl mBts mNum W) 7 ((f_X12_keepsPast mPpl mBts mNum W) 1 - 1) (f_X12_orMinus (f_X12_resultNow mPpl mBts mNum (f_X12_keepsPast mPpl mBts mNum W)))) := by
        unfold f_X12_strikes
        rw [show mPpl.toNatClampNeg = P by rw [hs.2.1, nI_clamp (by omega)], hW]
      rw [em]
      exact ⟨(ones_msk _ (by decide)).symm, hfin.1.st (hfin.2.cong (by omega) rfl (fun _ _ _ => rfl)), hrem⟩
    · have q2' : recs = mNum 9 := by
        generalize recs.toNatClampNeg = k at er hr
        generalize (mNum 9).toNatClampNeg = k9 at e9' h9' hQ
        rw [er, e9'] at q2 ⊢
        have : ¬ k < k9 := fun z => q2 (nI_lt z (by omega))
        rw [show k = k9 by omega]
      simp only [if_neg q2, if_pos q2']
      exact ⟨trivial, h.mono (Nat.le_succ N) hP hB, hh.mono (Nat.le_succ N) hP hB⟩
  · simp only [if_neg q1]
    cases c1 : (!decide (votes ≤ 0) && !tb isOpen)
    · simp only [cond_false]
      exact ⟨trivial, h.mono (Nat.le_succ N) hP hB, hh.mono (Nat.le_succ N) hP hB⟩
    · simp only [cond_true]
      have hit0 : f_X12_isInTime mNum mW = false := by
        cases w : f_X12_isInTime mNum mW
        · rfl
        · rcases hit.mp w with z | z
          · rw [z, Bool.not_true, Bool.and_false] at c1
            exact absurd c1 (by decide)
          · exact absurd z q1
      rw [hit0]
      simp only [cond_false]
      exact ⟨trivial, h.mono (Nat.le_succ N) hP hB, hh.mono (Nat.le_succ N) hP hB⟩
end O9
