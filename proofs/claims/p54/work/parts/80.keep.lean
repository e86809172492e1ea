section P1
variable {N M P B Q A : Nat} {day votes isOpen baskets lays recs fneed clos pastN logN : Int32} {boatO seaO faultO daysO backB sailB plc car bnd bsk dyL rsn pastF logF mW mW2 : Nat → Int32}
variable {nums bNames pNames fBoats : Nat → Int32} {nB nP mPpl mBts : Int32} {mNum mNam mFst mBnm : Nat → Int32}
variable {hsN hsX mUs : Int32} {hsF : Nat → StT} {mUn : Nat → Int32}
variable {kpZ mKp mSl : Nat → Int32} {kpF : Nat → StT}
theorem slot_eq (x : Int32) : f_X11_isSlot x = f_X12_in x.toInt64 0 1 := by
  have e : f_X12_in x.toInt64 0 1 = f_X11_isIn x 2 := inL_P (n := 2) (by decide)
  unfold f_X11_isSlot
  rw [e]
  cases f_X11_isIn x 2
  · rfl
  · rfl
theorem slot_n {x : Int32} (c : f_X12_in x.toInt64 0 1 = true) : ∃ i, x = nI i ∧ i < 2 := by
  rw [← slot_eq] at c
  unfold f_X11_isSlot at c
  cases q : f_X11_isIn x 2
  · rw [q] at c
    exact absurd c (by decide)
  · obtain ⟨e, h⟩ := vin_nI ((isIn_eq (n := 2) (by decide)).mp q)
    exact ⟨_, e, h⟩
theorem slot_copy {i : Nat} (hi : i < 2) : L_X12_keep_14 mW mSl (nI i) 399 = fun j => if 399 * i ≤ j ∧ j < 399 * i + 399 then mW (j - 399 * i) else mSl j :=
  iter_copy (b := 399 * i) (g := mW) (N := 399) (fun n t hn => by rw [m399 (by omega) hn, nI_clamp (by omega)]) mSl 399 (Nat.le_refl _)
theorem slot_back {i : Nat} (hi : i < 2) : L_X12_restore_30 mW mSl (nI i) 399 = fun j => if 0 ≤ j ∧ j < 0 + 399 then (fun n => mSl (399 * i + n)) (j - 0) else mW j :=
  iter_copy (b := 0) (g := fun n => mSl (399 * i + n)) (N := 399) (fun n t hn => by rw [m399 (by omega) hn, nI_clamp (by omega), Nat.zero_add]) mW 399 (Nat.le_refl _)
theorem st_keep (h : RSt N P B Q day votes isOpen baskets lays recs fneed clos boatO seaO faultO daysO backB sailB plc car bnd bsk dyL rsn pastF pastN logF logN mW) (hs : RSu P B Q nums bNames pNames fBoats nB nP mPpl mBts mNum mNam mFst mBnm) (hk : RKe N P B Q kpZ kpF mKp mSl) (x : Int32) : (f_X11_keep day votes isOpen baskets lays recs fneed clos boatO seaO faultO daysO backB sailB plc car bnd bsk dyL rsn pastF pastN logF logN kpF kpZ x).1 = (f_X12_keep mW mSl mKp x).1 ∧ RKe N P B Q ((f_X11_keep day votes isOpen baskets lays recs fneed clos boatO seaO faultO daysO backB sailB plc car bnd bsk dyL rsn pastF pastN logF logN kpF kpZ x).2.2) ((f_X11_keep day votes isOpen baskets lays recs fneed clos boatO seaO faultO daysO backB sailB plc car bnd bsk dyL rsn pastF pastN logF logN kpF kpZ x).2.1) ((f_X12_keep mW mSl mKp x).2.1) ((f_X12_keep mW mSl mKp x).2.2) := by
  have hP := su_P hs
  have hB := hs.2.2.2.2.2.1
  unfold f_X11_keep f_X12_keep
  rw [slot_eq]
  cases c : f_X12_in x.toInt64 0 1
  · simp only [cond_false]
    exact ⟨trivial, hk⟩
  · simp only [cond_true]
    obtain ⟨i, rfl, hi⟩ := slot_n c
    have ci : (nI i).toNatClampNeg = i := nI_clamp (by omega)
    rw [slot_copy hi, ci]
    refine ⟨(rs_day h).symm, fun s hs2 => ?_⟩
    by_cases q : s = i
    · subst q
      rw [upd_eq, upd_eq, updS_eq]
      refine Or.inr ⟨rfl, rfl, ?_⟩
      refine RT.congm (t := (day, votes, isOpen, baskets, lays, recs, fneed, clos, boatO, seaO, faultO, daysO, backB, sailB, plc, car, bnd, bsk, dyL, rsn, pastF, pastN, logF, logN)) h (fun j hj => ?_) (Nat.le_refl N) hP hB
      show (if 399 * s ≤ 399 * s + j ∧ 399 * s + j < 399 * s + 399 then mW (399 * s + j - 399 * s) else mSl (399 * s + j)) = mW j
      rw [if_pos (by omega), Nat.add_sub_cancel_left]
    · rw [upd_ne q, upd_ne q, updS_ne q]
      rcases hk s hs2 with z | ⟨z1, z2, z3⟩
      · exact Or.inl z
      · refine Or.inr ⟨z1, z2, z3.congm (fun j hj => ?_) (Nat.le_refl N) hP hB⟩
        show (if 399 * i ≤ 399 * s + j ∧ 399 * s + j < 399 * i + 399 then mW (399 * s + j - 399 * i) else mSl (399 * s + j)) = mSl (399 * s + j)
        rw [if_neg (by omega)]
theorem st_restore (h : RSt N P B Q day votes isOpen baskets lays recs fneed clos boatO seaO faultO daysO backB sailB plc car bnd bsk dyL rsn pastF pastN logF logN mW) (hs : RSu P B Q nums bNames pNames fBoats nB nP mPpl mBts mNum mNam mFst mBnm) (hh : RHi N P B Q hsN hsX hsF mUs mUn) (hN : N ≤ 600) (hk : RKe N P B Q kpZ kpF mKp mSl) (x : Int32) : (f_X11_restore day votes isOpen baskets lays recs fneed clos boatO seaO faultO daysO backB sailB plc car bnd bsk dyL rsn pastF pastN logF logN hsN hsX hsF kpF kpZ x).1 = (f_X12_restore mUs mW mUn mSl mKp x).1 ∧ RSt (N + 1) P B Q ((f_X11_restore day votes isOpen baskets lays recs fneed clos boatO seaO faultO daysO backB sailB plc car bnd bsk dyL rsn pastF pastN logF logN hsN hsX hsF kpF kpZ x).2.2.2.2.2.2.2.2.1) ((f_X11_restore day votes isOpen baskets lays recs fneed clos boatO seaO faultO daysO backB sailB plc car bnd bsk dyL rsn pastF pastN logF logN hsN hsX hsF kpF kpZ x).2.2.2.2.2.2.2.2.2.2.2.2.2.2.2.2.2.2.2.2.2.2.2.2.2.2.2) ((f_X11_restore day votes isOpen baskets lays recs fneed clos boatO seaO faultO daysO backB sailB plc car bnd bsk dyL rsn pastF pastN logF logN hsN hsX hsF kpF kpZ x).2.2.2.2.2.2.2.2.2.2.2.2.2.2.2.2.1) ((f_X11_restore day votes isOpen baskets lays recs fneed clos boatO seaO faultO daysO backB sailB plc car bnd bsk dyL rsn pastF pastN logF logN hsN hsX hsF kpF kpZ x).2.2.1) ((f_X11_restore day votes isOpen baskets lays recs fneed clos boatO seaO faultO daysO backB sailB plc car bnd bsk dyL rsn pastF pastN logF logN hsN hsX hsF kpF kpZ x).2.2.2.2.2.2.2.2.2.2.2.2.2.2.2.2.2.1) ((f_X11_restore day votes isOpen baskets lays recs fneed clos boatO seaO faultO daysO backB sailB plc car bnd bsk dyL rsn pastF pastN logF logN hsN hsX hsF kpF kpZ x).2.2.2.2.2.2.2.2.2.2.2.2.2.2.2.2.2.2.2.2.2.2.2.1) ((f_X11_restore day votes isOpen baskets lays recs fneed clos boatO seaO faultO daysO backB sailB plc car bnd bsk dyL rsn pastF pastN logF logN hsN hsX hsF kpF kpZ x).2.2.2.2.2.2.2.2.2.2.2.2.1) ((f_X11_restore day votes isOpen baskets lays recs fneed clos boatO seaO faultO daysO backB sailB plc car bnd bsk dyL rsn pastF pastN logF logN hsN hsX hsF kpF kpZ x).2.2.2.2.2.2.2.1) ((f_X11_restore day votes isOpen baskets lays recs fneed clos boatO seaO faultO daysO backB sailB plc car bnd bsk dyL rsn pastF pastN logF logN hsN hsX hsF kpF kpZ x).2.2.2.2.1) ((f_X11_restore day votes isOpen baskets lays recs fneed clos boatO seaO faultO daysO backB sailB plc car bnd bsk dyL rsn pastF pastN logF logN hsN hsX hsF kpF kpZ x).2.2.2.2.2.2.2.2.2.2.2.2.2.2.2.2.2.2.2.2.2.2.2.2.2.2.1) ((f_X11_restore day votes isOpen baskets lays recs fneed clos boatO seaO faultO daysO backB sailB plc car bnd bsk dyL rsn pastF pastN logF logN hsN hsX hsF kpF kpZ x).2.2.2.2.2.2.2.2.2.2.2.1) ((f_X11_restore day votes isOpen baskets lays recs fneed clos boatO seaO faultO daysO backB sailB plc car bnd bsk dyL rsn pastF pastN logF logN hsN hsX hsF kpF kpZ x).2.2.2.2.2.2.2.2.2.1) ((f_X11_restore day votes isOpen baskets lays recs fneed clos boatO seaO faultO daysO backB sailB plc car bnd bsk dyL rsn pastF pastN logF logN hsN hsX hsF kpF kpZ x).2.1) ((f_X11_restore day votes isOpen baskets lays recs fneed clos boatO seaO faultO daysO backB sailB plc car bnd bsk dyL rsn pastF pastN logF logN hsN hsX hsF kpF kpZ x).2.2.2.2.2.2.2.2.2.2.2.2.2.2.2.2.2.2.2.2.2.2.2.2.2.1) ((f_X11_restore day votes isOpen baskets lays recs fneed clos boatO seaO faultO daysO backB sailB plc car bnd bsk dyL rsn pastF pastN logF logN hsN hsX hsF kpF kpZ x).2.2.2.2.2.2.2.2.2.2.2.2.2.2.2.2.2.2.2.2.2.2.1) ((f_X11_restore day votes isOpen baskets lays recs fneed clos boatO seaO faultO daysO backB sailB plc car bnd bsk dyL rsn pastF pastN logF logN hsN hsX hsF kpF kpZ x).2.2.2.2.2.2.1) ((f_X11_restore day votes isOpen baskets lays recs fneed clos boatO seaO faultO daysO backB sailB plc car bnd bsk dyL rsn pastF pastN logF logN hsN hsX hsF kpF kpZ x).2.2.2.1) ((f_X11_restore day votes isOpen baskets lays recs fneed clos boatO seaO faultO daysO backB sailB plc car bnd bsk dyL rsn pastF pastN logF logN hsN hsX hsF kpF kpZ x).2.2.2.2.2.1) ((f_X11_restore day votes isOpen baskets lays recs fneed clos boatO seaO faultO daysO backB sailB plc car bnd bsk dyL rsn pastF pastN logF logN hsN hsX hsF kpF kpZ x).2.2.2.2.2.2.2.2.2.2.1) ((f_X11_restore day votes isOpen baskets lays recs fneed clos boatO seaO faultO daysO backB sailB plc car bnd bsk dyL rsn pastF pastN logF logN hsN hsX hsF kpF kpZ x).2.2.2.2.2.2.2.2.2.2.2.2.2.2.2.2.2.2.2.2.2.2.2.2.1) ((f_X11_restore day votes isOpen baskets lays recs fneed clos boatO seaO faultO daysO backB sailB plc car bnd bsk dyL rsn pastF pastN logF logN hsN hsX hsF kpF kpZ x).2.2.2.2.2.2.2.2.2.2.2.2.2.2.2.2.2.2.2.2.1) ((f_X11_restore day votes isOpen baskets lays recs fneed clos boatO seaO faultO daysO backB sailB plc car bnd bsk dyL rsn pastF pastN logF logN hsN hsX hsF kpF kpZ x).2.2.2.2.2.2.2.2.2.2.2.2.2.2.2.2.2.2.2.2.2.1) ((f_X11_restore day votes isOpen baskets lays recs fneed clos boatO seaO faultO daysO backB sailB plc car bnd bsk dyL rsn pastF pastN logF logN hsN hsX hsF kpF kpZ x).2.2.2.2.2.2.2.2.2.2.2.2.2.2.2.2.2.2.1) ((f_X11_restore day votes isOpen baskets lays recs fneed clos boatO seaO faultO daysO backB sailB plc car bnd bsk dyL rsn pastF pastN logF logN hsN hsX hsF kpF kpZ x).2.2.2.2.2.2.2.2.2.2.2.2.2.2.2.2.2.2.2.1) ((f_X12_restore mUs mW mUn mSl mKp x).2.2.2) ∧ RHi (N + 1) P B Q ((f_X11_restore day votes isOpen baskets lays recs fneed clos boatO seaO faultO daysO backB sailB plc car bnd bsk dyL rsn pastF pastN logF logN hsN hsX hsF kpF kpZ x).2.2.2.2.2.2.2.2.2.2.2.2.2.2.1) ((f_X11_restore day votes isOpen baskets lays recs fneed clos boatO seaO faultO daysO backB sailB plc car bnd bsk dyL rsn pastF pastN logF logN hsN hsX hsF kpF kpZ x).2.2.2.2.2.2.2.2.2.2.2.2.2.2.2.1) ((f_X11_restore day votes isOpen baskets lays recs fneed clos boatO seaO faultO daysO backB sailB plc car bnd bsk dyL rsn pastF pastN logF logN hsN hsX hsF kpF kpZ x).2.2.2.2.2.2.2.2.2.2.2.2.2.1) ((f_X12_restore mUs mW mUn mSl mKp x).2.2.1) ((f_X12_restore mUs mW mUn mSl mKp x).2.1) := by
  have hP := su_P hs
  have hB := hs.2.2.2.2.2.1
  unfold f_X11_restore f_X12_restore S_X11_restore_30
  rw [slot_eq]
  cases c : f_X12_in x.toInt64 0 1
  · simp only [cond_false]
    exact ⟨trivial, h.mono (Nat.le_succ N) hP hB, hh.mono (Nat.le_succ N) hP hB⟩
  · simp only [cond_true]
    obtain ⟨i, rfl, hi⟩ := slot_n c
    have ci : (nI i).toNatClampNeg = i := nI_clamp (by omega)
    rw [ci, slot_back hi]
    rcases hk i hi with ⟨z1, z2⟩ | ⟨z1, z2, z3⟩
    · simp only [if_pos z1, if_pos z2]
      exact ⟨trivial, h.mono (Nat.le_succ N) hP hB, hh.mono (Nat.le_succ N) hP hB⟩
    · have n1 : ¬ kpZ i = 0 := by
        rw [z1]
        decide
      have n2 : ¬ mKp i = 0 := by
        rw [z2]
        decide
      simp only [if_neg n1, if_neg n2]
      have hrem := ((hh.rem (t := (day, votes, isOpen, baskets, lays, recs, fneed, clos, boatO, seaO, faultO, daysO, backB, sailB, plc, car, bnd, bsk, dyL, rsn, pastF, pastN, logF, logN)) h hP hB).mono (Nat.le_succ N) hP hB)
      have hz : RT (N + 1) P B Q (kpF i) (fun j => if 0 ≤ j ∧ j < 0 + 399 then (fun n => mSl (399 * i + n)) (j - 0) else mW j) := z3.congm (fun j hj => by
        show (if 0 ≤ j ∧ j < 0 + 399 then mSl (399 * i + (j - 0)) else mW j) = mSl (399 * i + j)
        rw [if_pos (by omega), Nat.sub_zero]) (Nat.le_succ N) hP hB
      exact ⟨hz.1.1.1.symm, hz, hrem⟩
theorem st_undo (h : RSt N P B Q day votes isOpen baskets lays recs fneed clos boatO seaO faultO daysO backB sailB plc car bnd bsk dyL rsn pastF pastN logF logN mW) (hs : RSu P B Q nums bNames pNames fBoats nB nP mPpl mBts mNum mNam mFst mBnm) (hh : RHi N P B Q hsN hsX hsF mUs mUn) (hN : N ≤ 600) : (f_X11_undo day votes isOpen baskets lays recs fneed clos boatO seaO faultO daysO backB sailB plc car bnd bsk dyL rsn pastF pastN logF logN hsN hsX hsF).1 = (f_X12_undo mUs mW mUn).1 ∧ RSt (N + 1) P B Q ((f_X11_undo day votes isOpen baskets lays recs fneed clos boatO seaO faultO daysO backB sailB plc car bnd bsk dyL rsn pastF pastN logF logN hsN hsX hsF).2.2.2.2.2.2.2.2.1) ((f_X11_undo day votes isOpen baskets lays recs fneed clos boatO seaO faultO daysO backB sailB plc car bnd bsk dyL rsn pastF pastN logF logN hsN hsX hsF).2.2.2.2.2.2.2.2.2.2.2.2.2.2.2.2.2.2.2.2.2.2.2.2.2.2) ((f_X11_undo day votes isOpen baskets lays recs fneed clos boatO seaO faultO daysO backB sailB plc car bnd bsk dyL rsn pastF pastN logF logN hsN hsX hsF).2.2.2.2.2.2.2.2.2.2.2.2.2.2.2.1) ((f_X11_undo day votes isOpen baskets lays recs fneed clos boatO seaO faultO daysO backB sailB plc car bnd bsk dyL rsn pastF pastN logF logN hsN hsX hsF).2.2.1) ((f_X11_undo day votes isOpen baskets lays recs fneed clos boatO seaO faultO daysO backB sailB plc car bnd bsk dyL rsn pastF pastN logF logN hsN hsX hsF).2.2.2.2.2.2.2.2.2.2.2.2.2.2.2.2.1) ((f_X11_undo day votes isOpen baskets lays recs fneed clos boatO seaO faultO daysO backB sailB plc car bnd bsk dyL rsn pastF pastN logF logN hsN hsX hsF).2.2.2.2.2.2.2.2.2.2.2.2.2.2.2.2.2.2.2.2.2.2.1) ((f_X11_undo day votes isOpen baskets lays recs fneed clos boatO seaO faultO daysO backB sailB plc car bnd bsk dyL rsn pastF pastN logF logN hsN hsX hsF).2.2.2.2.2.2.2.2.2.2.2.2.1) ((f_X11_undo day votes isOpen baskets lays recs fneed clos boatO seaO faultO daysO backB sailB plc car bnd bsk dyL rsn pastF pastN logF logN hsN hsX hsF).2.2.2.2.2.2.2.1) ((f_X11_undo day votes isOpen baskets lays recs fneed clos boatO seaO faultO daysO backB sailB plc car bnd bsk dyL rsn pastF pastN logF logN hsN hsX hsF).2.2.2.2.1) ((f_X11_undo day votes isOpen baskets lays recs fneed clos boatO seaO faultO daysO backB sailB plc car bnd bsk dyL rsn pastF pastN logF logN hsN hsX hsF).2.2.2.2.2.2.2.2.2.2.2.2.2.2.2.2.2.2.2.2.2.2.2.2.2.1) ((f_X11_undo day votes isOpen baskets lays recs fneed clos boatO seaO faultO daysO backB sailB plc car bnd bsk dyL rsn pastF pastN logF logN hsN hsX hsF).2.2.2.2.2.2.2.2.2.2.2.1) ((f_X11_undo day votes isOpen baskets lays recs fneed clos boatO seaO faultO daysO backB sailB plc car bnd bsk dyL rsn pastF pastN logF logN hsN hsX hsF).2.2.2.2.2.2.2.2.2.1) ((f_X11_undo day votes isOpen baskets lays recs fneed clos boatO seaO faultO daysO backB sailB plc car bnd bsk dyL rsn pastF pastN logF logN hsN hsX hsF).2.1) ((f_X11_undo day votes isOpen baskets lays recs fneed clos boatO seaO faultO daysO backB sailB plc car bnd bsk dyL rsn pastF pastN logF logN hsN hsX hsF).2.2.2.2.2.2.2.2.2.2.2.2.2.2.2.2.2.2.2.2.2.2.2.2.1) ((f_X11_undo day votes isOpen baskets lays recs fneed clos boatO seaO faultO daysO backB sailB plc car bnd bsk dyL rsn pastF pastN logF logN hsN hsX hsF).2.2.2.2.2.2.2.2.2.2.2.2.2.2.2.2.2.2.2.2.2.1) ((f_X11_undo day votes isOpen baskets lays recs fneed clos boatO seaO faultO daysO backB sailB plc car bnd bsk dyL rsn pastF pastN logF logN hsN hsX hsF).2.2.2.2.2.2.1) ((f_X11_undo day votes isOpen baskets lays recs fneed clos boatO seaO faultO daysO backB sailB plc car bnd bsk dyL rsn pastF pastN logF logN hsN hsX hsF).2.2.2.1) ((f_X11_undo day votes isOpen baskets lays recs fneed clos boatO seaO faultO daysO backB sailB plc car bnd bsk dyL rsn pastF pastN logF logN hsN hsX hsF).2.2.2.2.2.1) ((f_X11_undo day votes isOpen baskets lays recs fneed clos boatO seaO faultO daysO backB sailB plc car bnd bsk dyL rsn pastF pastN logF logN hsN hsX hsF).2.2.2.2.2.2.2.2.2.2.1) ((f_X11_undo day votes isOpen baskets lays recs fneed clos boatO seaO faultO daysO backB sailB plc car bnd bsk dyL rsn pastF pastN logF logN hsN hsX hsF).2.2.2.2.2.2.2.2.2.2.2.2.2.2.2.2.2.2.2.2.2.2.2.1) ((f_X11_undo day votes isOpen baskets lays recs fneed clos boatO seaO faultO daysO backB sailB plc car bnd bsk dyL rsn pastF pastN logF logN hsN hsX hsF).2.2.2.2.2.2.2.2.2.2.2.2.2.2.2.2.2.2.2.1) ((f_X11_undo day votes isOpen baskets lays recs fneed clos boatO seaO faultO daysO backB sailB plc car bnd bsk dyL rsn pastF pastN logF logN hsN hsX hsF).2.2.2.2.2.2.2.2.2.2.2.2.2.2.2.2.2.2.2.2.1) ((f_X11_undo day votes isOpen baskets lays recs fneed clos boatO seaO faultO daysO backB sailB plc car bnd bsk dyL rsn pastF pastN logF logN hsN hsX hsF).2.2.2.2.2.2.2.2.2.2.2.2.2.2.2.2.2.1) ((f_X11_undo day votes isOpen baskets lays recs fneed clos boatO seaO faultO daysO backB sailB plc car bnd bsk dyL rsn pastF pastN logF logN hsN hsX hsF).2.2.2.2.2.2.2.2.2.2.2.2.2.2.2.2.2.2.1) ((f_X12_undo mUs mW mUn).2.2) ∧ RHi (N + 1) P B Q ((f_X11_undo day votes isOpen baskets lays recs fneed clos boatO seaO faultO daysO backB sailB plc car bnd bsk dyL rsn pastF pastN logF logN hsN hsX hsF).2.2.2.2.2.2.2.2.2.2.2.2.2.1) ((f_X11_undo day votes isOpen baskets lays recs fneed clos boatO seaO faultO daysO backB sailB plc car bnd bsk dyL rsn pastF pastN logF logN hsN hsX hsF).2.2.2.2.2.2.2.2.2.2.2.2.2.2.1) hsF ((f_X12_undo mUs mW mUn).2.1) mUn := by
  have hP := su_P hs
  have hB := hs.2.2.2.2.2.1
  obtain ⟨h1, h2, h3, h4⟩ := hh.undo (t := (day, votes, isOpen, baskets, lays, recs, fneed, clos, boatO, seaO, faultO, daysO, backB, sailB, plc, car, bnd, bsk, dyL, rsn, pastF, pastN, logF, logN)) h hP hB
  unfold f_X11_undo S_X11_undo_8
  cases c : (f_X3_bringBack hsN hsX hsF (day, votes, isOpen, baskets, lays, recs, fneed, clos, boatO, seaO, faultO, daysO, backB, sailB, plc, car, bnd, bsk, dyL, rsn, pastF, pastN, logF, logN)).1
  · simp only [cond_false]
    refine ⟨?_, RSt.mono h4 (Nat.le_succ N) hP hB, h3.mono (Nat.le_succ N) hP hB⟩
    by_cases q : (f_X12_undo mUs mW mUn).1 = -1
    · exact q.symm
    · have := h1.mpr q
      rw [c] at this
      exact absurd this (by decide)
  · simp only [cond_true]
    exact ⟨h2 c, RSt.mono h4 (Nat.le_succ N) hP hB, h3.mono (Nat.le_succ N) hP hB⟩
end P1
