section FR
variable {N M P B Q : Nat} {day votes isOpen baskets lays recs fneed clos pastN logN : Int32} {boatO seaO faultO daysO backB sailB plc car bnd bsk dyL rsn pastF logF mW mW2 : Nat → Int32}
variable {votes2 : Int32} {boatO2 seaO2 faultO2 daysO2 backB2 sailB2 plc2 car2 bnd2 bsk2 dyL2 rsn2 : Nat → Int32}
theorem RPe.cong {p : Nat} (h : RPe N P B votes boatO seaO faultO daysO backB plc car bnd bsk dyL rsn mW p) (e0 : boatO2 p = boatO p) (e1 : seaO2 p = seaO p) (e2 : faultO2 p = faultO p) (e3 : daysO2 p = daysO p) (e5 : plc2 p = plc p) (e6 : car2 p = car p) (e7 : bnd2 p = bnd p) (e8 : bsk2 p = bsk p) (e9 : dyL2 p = dyL p) (e10 : rsn2 p = rsn p)
    (hc : cntB (fun o => (plc2 o == 2 || plc2 o == 3) && car2 o == nI p) P = cntB (fun o => (plc o == 2 || plc o == 3) && car o == nI p) P) (hb : ¬ seaO p = 0 → ¬ backB (boatO p).toNatClampNeg = 0 → ¬ backB2 (boatO p).toNatClampNeg = 0) (hv : ¬ votes = 0 → ¬ votes2 = 0)
    (hm : ∀ c, c < 11 → mW2 (9 + 11 * p + c) = mW (9 + 11 * p + c)) (hN : N ≤ M) : RPe M P B votes2 boatO2 seaO2 faultO2 daysO2 backB2 plc2 car2 bnd2 bsk2 dyL2 rsn2 mW2 p := by
  obtain ⟨⟨a1, a2⟩, b, ⟨c1, c2⟩, ⟨d1, d2⟩, e, ⟨f1, f2⟩, ⟨g1, g2, g3⟩, i1, i2, ⟨k1, k2⟩, l, m, ⟨n1, n2⟩, o1, o2⟩ := h
  unfold RPe
  rw [hc, e0, e1, e2, e3, e5, e6, e7, e8, e9, e10]
  refine ⟨⟨(hm 0 (by decide)).trans a1, a2⟩, ?_, ⟨(hm 2 (by decide)).trans c1, c2⟩, ⟨(hm 3 (by decide)).trans d1, vin_w d2 (by omega)⟩, (hm 4 (by decide)).trans e, ⟨(hm 5 (by decide)).trans f1, f2⟩, ⟨(hm 6 (by decide)).trans g1, g2, g3⟩, i1, i2, ⟨(hm 7 (by decide)).trans k1, k2⟩, (hm 8 (by decide)).trans l, (hm 9 (by decide)).trans m, ⟨(hm 10 (by decide)).trans n1, n2⟩, o1, fun q => ⟨(o2 q).1, hv (o2 q).2⟩⟩
  rcases b with ⟨h1, h2⟩ | ⟨h1, h2, h3, h4⟩
  · exact Or.inl ⟨h1, (hm 1 (by decide)).trans h2⟩
  · exact Or.inr ⟨h1, (hm 1 (by decide)).trans h2, h3, hb h1 h4⟩
theorem RPe.congm {p : Nat} (h : RPe N P B votes boatO seaO faultO daysO backB plc car bnd bsk dyL rsn mW p) (hm : ∀ c, c < 11 → mW2 (9 + 11 * p + c) = mW (9 + 11 * p + c)) (hN : N ≤ M) : RPe M P B votes boatO seaO faultO daysO backB plc car bnd bsk dyL rsn mW2 p :=
  h.cong rfl rfl rfl rfl rfl rfl rfl rfl rfl rfl rfl (fun _ q => q) (fun q => q) hm hN
theorem RNo.congm {p : Nat} (h : RNo boatO seaO faultO daysO plc car bsk dyL rsn mW p) (hm : ∀ c, c < 11 → mW2 (9 + 11 * p + c) = mW (9 + 11 * p + c)) : RNo boatO seaO faultO daysO plc car bsk dyL rsn mW2 p := by
  obtain ⟨a, b, c, d, e, f, g, i, j, k⟩ := h
  exact ⟨a, b, c, d, e, f, g, i, j, fun c hc => (hm c hc).trans (k c hc)⟩
theorem RBo.congm {b : Nat} (h : RBo N day backB sailB mW b) (hm : ∀ c, c < 3 → mW2 (229 + 3 * b + c) = mW (229 + 3 * b + c)) (hN : N ≤ M) : RBo M day backB sailB mW2 b := by
  obtain ⟨h1, h2, h3⟩ := h
  refine ⟨?_, (hm 2 (by decide)).trans h2, vin_w h3 (by omega)⟩
  rcases h1 with ⟨a1, a2⟩ | ⟨a1, a2, a3, a4⟩
  · exact Or.inl ⟨(hm 0 (by decide)).trans a1, a2⟩
  · exact Or.inr ⟨(hm 0 (by decide)).trans a1, (hm 1 (by decide)).trans a2, vin_w a3 (by omega), a4⟩
theorem RSc.congm (h : RSc N Q day votes isOpen baskets lays recs fneed clos mW) (hm : ∀ j, j < 8 → mW2 j = mW j) (hN : N ≤ M) : RSc M Q day votes isOpen baskets lays recs fneed clos mW2 := by
  obtain ⟨⟨a1, a2⟩, ⟨b1, b2⟩, ⟨c1, c2⟩, ⟨d1, d2⟩, ⟨e1, e2, e3⟩, ⟨f1, f2⟩, g⟩ := h
  exact ⟨⟨(hm 0 (by decide)).trans a1, vin_w a2 (by omega)⟩, ⟨(hm 1 (by decide)).trans b1, vin_w b2 (by omega)⟩, ⟨(hm 2 (by decide)).trans c1, c2⟩, ⟨(hm 3 (by decide)).trans d1, d2⟩, ⟨(hm 7 (by decide)).trans e1, vin_w e2 (by omega), e3⟩, ⟨(hm 6 (by decide)).trans f1, f2⟩, fun q => ⟨(hm 4 (by decide)).trans (g q).1, (hm 5 (by decide)).trans (g q).2.1, vin_w (g q).2.2 (by omega)⟩⟩
theorem RPa.congm (h : RPa votes isOpen fneed clos pastF pastN mW) (hm : ∀ j, 247 ≤ j → j < 279 → mW2 j = mW j) : RPa votes isOpen fneed clos pastF pastN mW2 := by
  obtain ⟨a, v, h1, h2, h3, h4, h5⟩ := h
  refine ⟨a, v, h1, h2, h3, h4, fun k c hk ha hc => (hm _ (by omega) ?_).trans (h5 k c hk ha hc)⟩
  have : k % 8 < 8 := Nat.mod_lt _ (by decide)
  omega
theorem RSx.congm (h : RSx N P B Q day votes isOpen baskets lays recs fneed clos boatO seaO faultO daysO backB sailB plc car bnd bsk dyL rsn pastF pastN mW) (hm : ∀ j, j < 279 → j ≠ 8 → mW2 j = mW j) (hN : N ≤ M) (hP : P ≤ 20) (hB : B ≤ 6) : RSx M P B Q day votes isOpen baskets lays recs fneed clos boatO seaO faultO daysO backB sailB plc car bnd bsk dyL rsn pastF pastN mW2 := by
  obtain ⟨h1, h2, h3, h4, h5, h6⟩ := h
  exact ⟨h1.congm (fun j hj => hm j (by omega) (by omega)) hN, fun p hp => (h2 p hp).congm (fun c hc => hm _ (by omega) (by omega)) hN, fun p hp hp2 => (h3 p hp hp2).congm (fun c hc => hm _ (by omega) (by omega)), fun b hb => (h4 b hb).congm (fun c hc => hm _ (by omega) (by omega)) hN, h5, h6.congm (fun j _ hj => hm j hj (by omega))⟩
theorem RSt.x (h : RSt N P B Q day votes isOpen baskets lays recs fneed clos boatO seaO faultO daysO backB sailB plc car bnd bsk dyL rsn pastF pastN logF logN mW) : RSx N P B Q day votes isOpen baskets lays recs fneed clos boatO seaO faultO daysO backB sailB plc car bnd bsk dyL rsn pastF pastN mW := ⟨h.1, h.2.1, h.2.2.1, h.2.2.2.1, h.2.2.2.2.1, h.2.2.2.2.2.1⟩
theorem RSt.l (h : RSt N P B Q day votes isOpen baskets lays recs fneed clos boatO seaO faultO daysO backB sailB plc car bnd bsk dyL rsn pastF pastN logF logN mW) : RLg (30 * N) logF logN mW := h.2.2.2.2.2.2
theorem RSx.st (h : RSx N P B Q day votes isOpen baskets lays recs fneed clos boatO seaO faultO daysO backB sailB plc car bnd bsk dyL rsn pastF pastN mW) (hl : RLg (30 * N) logF logN mW) : RSt N P B Q day votes isOpen baskets lays recs fneed clos boatO seaO faultO daysO backB sailB plc car bnd bsk dyL rsn pastF pastN logF logN mW := ⟨h.1, h.2.1, h.2.2.1, h.2.2.2.1, h.2.2.2.2.1, h.2.2.2.2.2, hl⟩
theorem RSt.congm (h : RSt N P B Q day votes isOpen baskets lays recs fneed clos boatO seaO faultO daysO backB sailB plc car bnd bsk dyL rsn pastF pastN logF logN mW) (hm : ∀ j, j < 399 → mW2 j = mW j) (hN : N ≤ M) (hP : P ≤ 20) (hB : B ≤ 6) : RSt M P B Q day votes isOpen baskets lays recs fneed clos boatO seaO faultO daysO backB sailB plc car bnd bsk dyL rsn pastF pastN logF logN mW2 :=
  (h.x.congm (fun j hj _ => hm j (by omega)) hN hP hB).st (h.l.cong (by omega) (hm 8 (by decide)) (fun j _ hj => hm j hj))
theorem RSt.mono (h : RSt N P B Q day votes isOpen baskets lays recs fneed clos boatO seaO faultO daysO backB sailB plc car bnd bsk dyL rsn pastF pastN logF logN mW) (hN : N ≤ M) (hP : P ≤ 20) (hB : B ≤ 6) : RSt M P B Q day votes isOpen baskets lays recs fneed clos boatO seaO faultO daysO backB sailB plc car bnd bsk dyL rsn pastF pastN logF logN mW := h.congm (fun _ _ => rfl) hN hP hB
theorem RSx.tells (h : RSx N P B Q day votes isOpen baskets lays recs fneed clos boatO seaO faultO daysO backB sailB plc car bnd bsk dyL rsn pastF pastN mW) (hl : ∃ n, mW 8 = nI n ∧ n ≤ 30) (hP : P ≤ 20) (hB : B ≤ 6) (kd one two : Int32) : RSx N P B Q day votes isOpen baskets lays recs fneed clos boatO seaO faultO daysO backB sailB plc car bnd bsk dyL rsn pastF pastN (f_X12_tells mW kd one two) :=
  h.congm (fun j hj h8 => tells_out hl kd one two h8 (Or.inl hj)) (Nat.le_refl _) hP hB
end FR
theorem RT.congm {N M P B Q : Nat} {t : StT} {mW mW2 : Nat → Int32} (h : RT N P B Q t mW) (hm : ∀ j, j < 399 → mW2 j = mW j) (hN : N ≤ M) (hP : P ≤ 20) (hB : B ≤ 6) : RT M P B Q t mW2 := RSt.congm h hm hN hP hB
theorem RHi.mono {N M P B Q : Nat} {hsN hsX : Int32} {hsF : Nat → StT} {mUs : Int32} {mUn : Nat → Int32} (h : RHi N P B Q hsN hsX hsF mUs mUn) (hN : N ≤ M) (hP : P ≤ 20) (hB : B ≤ 6) : RHi M P B Q hsN hsX hsF mUs mUn := by
  obtain ⟨s, x, h1, h2, h3, h4, h5, h6⟩ := h
  exact ⟨s, x, h1, h2, h3, h4, h5, fun i hi => (h6 i hi).congm (fun _ _ => rfl) hN hP hB⟩
theorem RKe.mono {N M P B Q : Nat} {kpZ : Nat → Int32} {kpF : Nat → StT} {mKp mSl : Nat → Int32} (h : RKe N P B Q kpZ kpF mKp mSl) (hN : N ≤ M) (hP : P ≤ 20) (hB : B ≤ 6) : RKe M P B Q kpZ kpF mKp mSl := fun s hs => by
  rcases h s hs with q | ⟨q1, q2, q3⟩
  · exact Or.inl q
  · exact Or.inr ⟨q1, q2, q3.congm (fun _ _ => rfl) hN hP hB⟩
theorem m399 {u n : Nat} (hu : u ≤ 8) (hn : n < 399) : ((399 : Int32) * nI u + nI n).toNatClampNeg = 399 * u + n := by
  rw [show (399 : Int32) = nI 399 from rfl, pk_mul, nI_add, nI_clamp (by omega)]
theorem keeps_part {s : Nat} (hs : s < 8) (mW mUn : Nat → Int32) : f_X12_keeps (nI s) mW mUn = ((fun j => if 399 * s ≤ j ∧ j < 399 * s + 399 then mW (j - 399 * s) else mUn j), nI (s + 1)) := by
  have e : L_X12_keeps_54 (nI s) mW mUn 399 = fun j => if 399 * s ≤ j ∧ j < 399 * s + 399 then mW (j - 399 * s) else mUn j :=
    iter_copy (b := 399 * s) (g := mW) (N := 399) (fun n t hn => by rw [m399 (by omega) hn, nI_clamp (by omega)]) mUn 399 (Nat.le_refl _)
  unfold f_X12_keeps
  rw [if_neg (show ¬ nI s = 8 from fun q => absurd ((nI_eq (a := s) (b := 8) (by omega) (by omega)).mp q) (by omega)), e, nI_1]
theorem keeps_full (mW mUn : Nat → Int32) : f_X12_keeps 8 mW mUn = ((fun j => if 399 * 7 ≤ j ∧ j < 399 * 7 + 399 then mW (j - 399 * 7) else if 0 ≤ j ∧ j < 0 + 2793 then mUn (j + 399) else mUn j), nI 8) := by
  have e1 : L_X12_keeps_13 mUn 2793 = fun j => if 0 ≤ j ∧ j < 0 + 2793 then mUn (j + 399) else mUn j :=
    iter_shift (b := 0) (k := 399) (N := 2793) (by decide) (fun n t hn => by
      have a1 : (nI (n + 399) - 399).toNatClampNeg = 0 + n := by
        rw [show (399 : Int32) = nI 399 from rfl, pk_sub (by omega), nI_clamp (by omega)]
        omega
      have a2 : (nI (n + 399)).toNatClampNeg = 0 + n + 399 := by
        rw [nI_clamp (by omega)]
        omega
      rw [a1, a2]) mUn 2793 (Nat.le_refl _)
  have e : L_X12_keeps_54a 8 mW mUn 399 = fun j => if 399 * 7 ≤ j ∧ j < 399 * 7 + 399 then mW (j - 399 * 7) else L_X12_keeps_13 mUn 2793 j :=
    iter_copy (b := 399 * 7) (g := mW) (N := 399) (fun n t hn => by
      rw [show (8 : Int32) - 1 = nI 7 from rfl, m399 (by omega) hn, nI_clamp (by omega)]) _ 399 (Nat.le_refl _)
  unfold f_X12_keeps
  rw [if_pos rfl, e, e1]
  rfl
theorem rem_eq {s x : Nat} (hs : s ≤ 8) (hx : x < 8) (hsF : Nat → StT) (t : StT) : f_X3_remember (nI s) (nI x) hsF t = (nI (min (s + 1) 8), nI ((x + 1) % 8), updS hsF x t) := by
  unfold f_X3_remember
  rw [show f_X11_isIn (nI x) 8 = true from (isIn_eq (n := 8) (by decide)).mpr (vp_in_nI hx (by decide)), nI_1, nI_1, nI_clamp (by omega)]
  have e1 : (if (8 : Int32) < nI (s + 1) then (8 : Int32) else nI (s + 1)) = nI (min (s + 1) 8) := by
    by_cases q : 8 < s + 1
    · rw [if_pos (show (8 : Int32) < nI (s + 1) from (nI_ltI (a := 8) (by omega) (by omega)).mpr q), Nat.min_eq_right (by omega)]
      rfl
    · rw [if_neg (show ¬ (8 : Int32) < nI (s + 1) from fun z => q ((nI_ltI (a := 8) (by omega) (by omega)).mp z)), Nat.min_eq_left (by omega)]
  have e2 : (if (8 : Int32) ≤ nI (x + 1) then (0 : Int32) else nI (x + 1)) = nI ((x + 1) % 8) := by
    by_cases q : 8 ≤ x + 1
    · rw [if_pos (show (8 : Int32) ≤ nI (x + 1) from (nI_leI (a := 8) (by omega) (by omega)).mpr q), show (x + 1) % 8 = 0 by omega]
      rfl
    · rw [if_neg (show ¬ (8 : Int32) ≤ nI (x + 1) from fun z => q ((nI_leI (a := 8) (by omega) (by omega)).mp z)), Nat.mod_eq_of_lt (by omega)]
  rw [e1, e2]
  rfl
/-- what is remembered agrees -/
theorem RHi.rem {N P B Q : Nat} {hsN hsX : Int32} {hsF : Nat → StT} {mUs : Int32} {mUn mW : Nat → Int32} {t : StT} (h : RHi N P B Q hsN hsX hsF mUs mUn) (ht : RT N P B Q t mW) (hP : P ≤ 20) (hB : B ≤ 6) :
    RHi N P B Q (f_X3_remember hsN hsX hsF t).1 (f_X3_remember hsN hsX hsF t).2.1 (f_X3_remember hsN hsX hsF t).2.2 (f_X12_keeps mUs mW mUn).2 (f_X12_keeps mUs mW mUn).1 := by
  obtain ⟨s, x, rfl, rfl, rfl, h4, h5, h6⟩ := h
  rw [rem_eq h4 h5]
  by_cases q : s < 8
  · rw [keeps_part q, Nat.min_eq_left (by omega)]
    refine ⟨s + 1, (x + 1) % 8, rfl, rfl, rfl, by omega, Nat.mod_lt _ (by decide), fun i hi => ?_⟩
    by_cases e : i = s
    · rw [show ((x + 1) % 8 + 8 - (s + 1) + i) % 8 = x by omega]
      show RT N P B Q (updS hsF x t x) _
      rw [updS_eq]
      subst e
      refine ht.congm (fun j hj => ?_) (Nat.le_refl _) hP hB
      show (if 399 * i ≤ 399 * i + j ∧ 399 * i + j < 399 * i + 399 then mW (399 * i + j - 399 * i) else mUn (399 * i + j)) = mW j
      rw [if_pos (by omega), Nat.add_sub_cancel_left]
    · have hne : (x + 8 - s + i) % 8 ≠ x := by omega
      rw [show ((x + 1) % 8 + 8 - (s + 1) + i) % 8 = (x + 8 - s + i) % 8 by omega]
      show RT N P B Q (updS hsF x t ((x + 8 - s + i) % 8)) _
      rw [updS_ne hne]
      refine (h6 i (by omega)).congm (fun j hj => ?_) (Nat.le_refl _) hP hB
      show (if 399 * s ≤ 399 * i + j ∧ 399 * i + j < 399 * s + 399 then mW (399 * i + j - 399 * s) else mUn (399 * i + j)) = mUn (399 * i + j)
      rw [if_neg (by omega)]
  · have e8 : s = 8 := by omega
    subst e8
    rw [show nI 8 = (8 : Int32) from rfl, keeps_full]
    refine ⟨8, (x + 1) % 8, rfl, rfl, rfl, by omega, Nat.mod_lt _ (by decide), fun i hi => ?_⟩
    by_cases e : i = 7
    · rw [show ((x + 1) % 8 + 8 - 8 + i) % 8 = x by omega]
      show RT N P B Q (updS hsF x t x) _
      rw [updS_eq]
      subst e
      refine ht.congm (fun j hj => ?_) (Nat.le_refl _) hP hB
      show (if 399 * 7 ≤ 399 * 7 + j ∧ 399 * 7 + j < 399 * 7 + 399 then mW (399 * 7 + j - 399 * 7) else _) = mW j
      rw [if_pos (by omega), Nat.add_sub_cancel_left]
    · have hne : (x + 8 - 8 + (i + 1)) % 8 ≠ x := by omega
      rw [show ((x + 1) % 8 + 8 - 8 + i) % 8 = (x + 8 - 8 + (i + 1)) % 8 by omega]
      show RT N P B Q (updS hsF x t ((x + 8 - 8 + (i + 1)) % 8)) _
      rw [updS_ne hne]
      refine (h6 (i + 1) (by omega)).congm (fun j hj => ?_) (Nat.le_refl _) hP hB
      show (if 399 * 7 ≤ 399 * i + j ∧ 399 * i + j < 399 * 7 + 399 then mW (399 * i + j - 399 * 7) else if 0 ≤ 399 * i + j ∧ 399 * i + j < 0 + 2793 then mUn (399 * i + j + 399) else mUn (399 * i + j)) = mUn (399 * (i + 1) + j)
      rw [if_neg (by omega), if_pos (by omega), show 399 * i + j + 399 = 399 * (i + 1) + j by omega]
/-- undo() -/
theorem RHi.undo {N P B Q : Nat} {hsN hsX : Int32} {hsF : Nat → StT} {mUs : Int32} {mUn mW : Nat → Int32} {t : StT} (h : RHi N P B Q hsN hsX hsF mUs mUn) (ht : RT N P B Q t mW) (hP : P ≤ 20) (hB : B ≤ 6) :
    ((f_X3_bringBack hsN hsX hsF t).1 = true ↔ ¬ (f_X12_undo mUs mW mUn).1 = -1) ∧ ((f_X3_bringBack hsN hsX hsF t).1 = true → (f_X3_bringBack hsN hsX hsF t).2.1 = (f_X12_undo mUs mW mUn).1) ∧
    RHi N P B Q (f_X3_bringBack hsN hsX hsF t).2.1 (f_X3_bringBack hsN hsX hsF t).2.2.1 hsF (f_X12_undo mUs mW mUn).2.1 mUn ∧ RT N P B Q (f_X3_bringBack hsN hsX hsF t).2.2.2 (f_X12_undo mUs mW mUn).2.2 := by
  obtain ⟨s, x, rfl, rfl, rfl, h4, h5, h6⟩ := h
  by_cases q : s = 0
  · subst q
    have e1 : f_X3_bringBack (nI 0) (nI x) hsF t = (false, nI 0, nI x, t) := by
      unfold f_X3_bringBack
      rw [if_pos (by decide)]
    have e2 : f_X12_undo (nI 0) mW mUn = (-1, nI 0, mW) := by
      unfold f_X12_undo
      rw [if_pos (by decide)]
    rw [e1, e2]
    exact ⟨⟨fun z => absurd (show false = true from z) (by decide), fun z => absurd rfl z⟩, fun z => absurd (show false = true from z) (by decide), ⟨0, x, rfl, rfl, rfl, h4, h5, h6⟩, ht⟩
  · have hl : h_latest (nI x) = nI ((x + 7) % 8) := by
      unfold h_latest
      by_cases z : x = 0
      · subst z
        rw [if_pos (by decide)]
        rfl
      · rw [if_neg (nI_nle (by omega) (by omega)), show (1 : Int32) = nI 1 from rfl, pk_sub (by omega), show (x + 7) % 8 = x - 1 by omega]
    have e1 : f_X3_bringBack (nI s) (nI x) hsF t = (true, nI (s - 1), nI ((x + 7) % 8), hsF ((x + 7) % 8)) := by
      unfold f_X3_bringBack
      rw [if_neg (show ¬ nI s < 1 from nI_nlt (b := 1) (by omega) (by omega)), hl, show f_X11_isIn (nI ((x + 7) % 8)) 8 = true from (isIn_eq (n := 8) (by decide)).mpr (vp_in_nI (Nat.mod_lt _ (by decide)) (by decide)), show (1 : Int32) = nI 1 from rfl, pk_sub (by omega), nI_clamp (by omega)]
      rfl
    have e3 : L_X12_undo_21 (nI s) mW mUn 399 = fun j => if 0 ≤ j ∧ j < 0 + 399 then (fun n => mUn (399 * (s - 1) + n)) (j - 0) else mW j :=
      iter_copy (b := 0) (g := fun n => mUn (399 * (s - 1) + n)) (N := 399) (fun n t hn => by
        rw [show (1 : Int32) = nI 1 from rfl, pk_sub (by omega), m399 (by omega) hn, nI_clamp (by omega), Nat.zero_add]) mW 399 (Nat.le_refl _)
    have e2 : f_X12_undo (nI s) mW mUn = (nI (s - 1), nI (s - 1), L_X12_undo_21 (nI s) mW mUn 399) := by
      unfold f_X12_undo
      rw [if_neg (nI_ne0 (by omega) (by omega)), show (1 : Int32) = nI 1 from rfl, pk_sub (by omega)]
    rw [e1, e2, e3]
    refine ⟨⟨fun _ z => ?_, fun _ => rfl⟩, fun _ => rfl, ⟨s - 1, (x + 7) % 8, rfl, rfl, rfl, by omega, Nat.mod_lt _ (by decide), fun i hi => ?_⟩, ?_⟩
    · have := nI_pos (n := s - 1) (by omega)
      rw [show nI (s - 1) = -1 from z] at this
      exact this (by decide)
    · rw [show ((x + 7) % 8 + 8 - (s - 1) + i) % 8 = (x + 8 - s + i) % 8 by omega]
      exact h6 i (by omega)
    · have h7 := h6 (s - 1) (by omega)
      rw [show (x + 8 - s + (s - 1)) % 8 = (x + 7) % 8 by omega] at h7
      refine h7.congm (fun j hj => ?_) (Nat.le_refl _) hP hB
      show (if 0 ≤ j ∧ j < 0 + 399 then mUn (399 * (s - 1) + (j - 0)) else mW j) = mUn (399 * (s - 1) + j)
      rw [if_pos (by omega), Nat.sub_zero]
