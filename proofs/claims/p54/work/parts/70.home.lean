theorem sets_N {mW : Nat → Int32} {p c : Nat} {v : Int32} (hp : p < 20) (hc : c < 11) : f_X12_sets mW (nI p) (nI c) v = upd mW (9 + 11 * p + c) v := by
  unfold f_X12_sets
  rw [of_nat (vp_in_nI hp (by decide)) (vp_in_nI hc (by decide)), nI_clamp (by omega), nI_clamp (by omega)]
theorem setsB_N {mW : Nat → Int32} {b c : Nat} {v : Int32} (hb : b < 6) (hc : c < 3) : f_X12_setsBoat mW (nI b) (nI c) v = upd mW (229 + 3 * b + c) v := by
  unfold f_X12_setsBoat
  rw [ofB_nat (vp_in_nI hb (by decide)) (vp_in_nI hc (by decide)), nI_clamp (by omega), nI_clamp (by omega)]
theorem nI_mod32 (a b : Nat) : vp_in (nI a) b → b < 2 ^ 31 → a < 2 ^ 31 → a < b := fun h _ ha => by
  have := (vp_in_iff.mp h).2
  rw [nI_toInt ha] at this
  omega
section OT
variable {N M P B Q A : Nat} {day votes isOpen baskets lays recs fneed clos pastN logN : Int32} {boatO seaO faultO daysO backB sailB plc car bnd bsk dyL rsn pastF logF mW mW2 : Nat → Int32}
variable {votes2 : Int32} {boatO2 seaO2 faultO2 daysO2 backB2 sailB2 plc2 car2 bnd2 bsk2 dyL2 rsn2 : Nat → Int32}
/-- a person whose boat or whose being at sea changes -/
theorem RPe.sea {p : Nat} (h : RPe N P B votes boatO seaO faultO daysO backB plc car bnd bsk dyL rsn mW p) (h0 : mW2 (9 + 11 * p) = boatO2 p ∧ (boatO2 p = -2 ∨ vp_in (boatO2 p) B))
    (h1 : (seaO2 p = 0 ∧ mW2 (9 + 11 * p + 1) = -2) ∨ (¬ seaO2 p = 0 ∧ mW2 (9 + 11 * p + 1) = boatO2 p ∧ vp_in (boatO2 p) B ∧ ¬ backB2 (boatO2 p).toNatClampNeg = 0))
    (hm : ∀ c, 2 ≤ c → c < 11 → mW2 (9 + 11 * p + c) = mW (9 + 11 * p + c)) (hN : N ≤ M) : RPe M P B votes boatO2 seaO2 faultO daysO backB2 plc car bnd bsk dyL rsn mW2 p := by
  obtain ⟨a, b, ⟨c1, c2⟩, ⟨d1, d2⟩, e, ⟨f1, f2⟩, ⟨g1, g2, g3⟩, i1, i2, ⟨k1, k2⟩, l, m, ⟨n1, n2⟩, o1, o2⟩ := h
  exact ⟨h0, h1, ⟨(hm 2 (by decide) (by decide)).trans c1, c2⟩, ⟨(hm 3 (by decide) (by decide)).trans d1, vin_w d2 (by omega)⟩, (hm 4 (by decide) (by decide)).trans e, ⟨(hm 5 (by decide) (by decide)).trans f1, f2⟩, ⟨(hm 6 (by decide) (by decide)).trans g1, g2, g3⟩, i1, i2, ⟨(hm 7 (by decide) (by decide)).trans k1, k2⟩, (hm 8 (by decide) (by decide)).trans l, (hm 9 (by decide) (by decide)).trans m, ⟨(hm 10 (by decide) (by decide)).trans n1, n2⟩, o1, o2⟩
theorem x_leave {b d : Int32} {i : Nat} (hi : i < 6) (hb : b = nI i) : f_X2_leave boatO seaO backB sailB b d = (nI (cntB (fun o => decide (boatO o = nI i)) 20), upd backB i d, upd sailB i (sailB i + 1), fun j => if j < 20 then (if boatO j = nI i then 1 else seaO j) else seaO j) := by
  subst hb
  have e1 : L_X2_leave_26 boatO seaO (nI i) 20 = fun j => if j < 20 then (if boatO j = nI i then 1 else seaO j) else seaO j :=
    iter_row (N := 20) (g := fun n s => if boatO n = nI i then 1 else s) (fun n s hn => by
      rw [x_boatO hn, setCell_nI (by decide) hn]
      by_cases q : boatO n = nI i
      · rw [if_pos q, if_pos q]
      · rw [if_neg q, if_neg q, upd_self]) seaO 20 (Nat.le_refl _)
  have e2 : f_X2_aboard boatO (fun j => if j < 20 then (if boatO j = nI i then 1 else seaO j) else seaO j) (nI i) = nI (cntB (fun o => decide (boatO o = nI i)) 20) :=
    iter_cnt (N := 20) (fun n s hn => by
      rw [x_boatO hn, x_sea hn]
      by_cases q : boatO n = nI i
      · rw [if_pos q, if_pos hn, if_pos q, decide_eq_true q]
        rfl
      · rw [if_neg q, decide_eq_false q]
        rfl) 20 (Nat.le_refl _)
  unfold f_X2_leave
  rw [e1, e2, setCell_nI (by decide) hi, setCell_nI (by decide) hi, x_sailB hi]
theorem x_arrive {b : Int32} {i : Nat} (hi : i < 6) (hb : b = nI i) : f_X2_arrive boatO seaO backB b = (f_X2_aboard boatO seaO (nI i), upd backB i 0, fun j => if j < 20 then (if boatO j = nI i then 0 else seaO j) else seaO j) := by
  subst hb
  have e1 : L_X2_arrive_17 boatO seaO (nI i) 20 = fun j => if j < 20 then (if boatO j = nI i then 0 else seaO j) else seaO j :=
    iter_row (N := 20) (g := fun n s => if boatO n = nI i then 0 else s) (fun n s hn => by
      rw [x_boatO hn, setCell_nI (by decide) hn]
      by_cases q : boatO n = nI i
      · rw [if_pos q, if_pos q]
      · rw [if_neg q, if_neg q, upd_self]) seaO 20 (Nat.le_refl _)
  unfold f_X2_arrive
  rw [e1, setCell_nI (by decide) hi]
theorem nI_inj6 {a b : Nat} (ha : a < 1000) (hb : b < 1000) (h : nI a = nI b) : a = b := (nI_eq (by omega) (by omega)).mp h
theorem ne_m2 {i : Nat} (hi : i < 1000) : ¬ nI i = -2 := fun z => by
  have := nI_pos (n := i) (by omega)
  rw [z] at this
  exact this (by decide)
/-- the reference's loop over those aboard: who comes home -/
theorem m_home (h : ∀ p, p < P → mW (9 + 11 * p + 1) = mW (9 + 11 * p + 1)) (hP : P ≤ 20) (b : Int32) : ∀ n, n ≤ P → (L_X12_comesHome_4 mW b n).1 = nI (cntB (fun o => decide (mW (9 + 11 * o + 1) = b)) n) ∧ (∀ p c, p < 20 → c < 11 → (L_X12_comesHome_4 mW b n).2 (9 + 11 * p + c) = if c = 1 ∧ p < n ∧ mW (9 + 11 * p + 1) = b then -2 else mW (9 + 11 * p + c)) ∧ ∀ j, (j < 9 ∨ 229 ≤ j) → (L_X12_comesHome_4 mW b n).2 j = mW j := by
  refine iter_inv (fun n (s : Int32 × (Nat → Int32)) => s.1 = nI (cntB (fun o => decide (mW (9 + 11 * o + 1) = b)) n) ∧ (∀ p c, p < 20 → c < 11 → s.2 (9 + 11 * p + c) = if c = 1 ∧ p < n ∧ mW (9 + 11 * p + 1) = b then -2 else mW (9 + 11 * p + c)) ∧ ∀ j, (j < 9 ∨ 229 ≤ j) → s.2 j = mW j) ⟨rfl, fun p c hp hc => ?_, fun j hj => rfl⟩ (fun n s hn hI => ?_)
  · rw [if_neg (by omega)]
  · obtain ⟨i1, i2, i3⟩ := hI
    have e1 : f_X12_of s.2 (nI n) 1 = mW (9 + 11 * n + 1) := by
      rw [of_1 (by omega), i2 n 1 (by omega) (by decide), if_neg (by omega)]
    rw [e1, show f_X12_sets s.2 (nI n) 1 (-2) = upd s.2 (9 + 11 * n + 1) (-2) from sets_N (c := 1) (by omega) (by decide)]
    by_cases q : mW (9 + 11 * n + 1) = b
    · rw [if_pos q]
      refine ⟨?_, fun p c hp hc => ?_, fun j hj => ?_⟩
      · rw [cntB, decide_eq_true q]
        show s.1 + 1 = nI (_ + 1)
        rw [i1, nI_1]
      · show upd s.2 (9 + 11 * n + 1) (-2) (9 + 11 * p + c) = _
        by_cases z : p = n ∧ c = 1
        · rw [z.1, z.2, upd_eq, if_pos ⟨rfl, by omega, q⟩]
        · rw [upd_ne (by omega), i2 p c hp hc]
          by_cases w : c = 1 ∧ p < n ∧ mW (9 + 11 * p + 1) = b
          · rw [if_pos w, if_pos ⟨w.1, by omega, w.2.2⟩]
          · rw [if_neg w, if_neg (fun v => w ⟨v.1, by omega, v.2.2⟩)]
      · show upd s.2 (9 + 11 * n + 1) (-2) j = _
        rw [upd_ne (by omega), i3 j hj]
    · rw [if_neg q]
      refine ⟨?_, fun p c hp hc => ?_, i3⟩
      · rw [cntB, decide_eq_false q]
        exact i1
      · show s.2 (9 + 11 * p + c) = _
        rw [i2 p c hp hc]
        by_cases w : c = 1 ∧ p < n ∧ mW (9 + 11 * p + 1) = b
        · rw [if_pos w, if_pos ⟨w.1, by omega, w.2.2⟩]
        · rw [if_neg w, if_neg (fun v => by
            by_cases y : p = n
            · rw [y] at v
              exact q v.2.2
            · exact w ⟨v.1, by omega, v.2.2⟩)]
def RSy (N P B Q : Nat) (dl : Int32) (day : Int32) (votes : Int32) (isOpen : Int32) (baskets : Int32) (lays : Int32) (recs : Int32) (fneed : Int32) (clos : Int32) (boatO : Nat → Int32) (seaO : Nat → Int32) (faultO : Nat → Int32) (daysO : Nat → Int32) (backB : Nat → Int32) (sailB : Nat → Int32) (plc : Nat → Int32) (car : Nat → Int32) (bnd : Nat → Int32) (bsk : Nat → Int32) (dyL : Nat → Int32) (rsn : Nat → Int32) (pastF : Nat → Int32) (pastN : Int32) (mW : Nat → Int32) : Prop :=
  RSc N Q day votes isOpen baskets lays recs fneed clos mW ∧ (∀ p, p < P → RPe N P B votes boatO seaO faultO daysO backB plc car bnd bsk dyL rsn mW p) ∧ (∀ p, P ≤ p → p < 20 → RNo boatO seaO faultO daysO plc car bsk dyL rsn mW p) ∧ (∀ b, b < B → RBo N dl backB sailB mW b) ∧ (∀ b, B ≤ b → b < 6 → backB b = 0) ∧ RPa votes isOpen fneed clos pastF pastN mW
theorem RSy.congm {dl : Int32} (h : RSy N P B Q dl day votes isOpen baskets lays recs fneed clos boatO seaO faultO daysO backB sailB plc car bnd bsk dyL rsn pastF pastN mW) (hm : ∀ j, j < 279 → j ≠ 8 → mW2 j = mW j) (hN : N ≤ M) (hP : P ≤ 20) (hB : B ≤ 6) : RSy M P B Q dl day votes isOpen baskets lays recs fneed clos boatO seaO faultO daysO backB sailB plc car bnd bsk dyL rsn pastF pastN mW2 := by
  obtain ⟨h1, h2, h3, h4, h5, h6⟩ := h
  exact ⟨h1.congm (fun j hj => hm j (by omega) (by omega)) hN, fun p hp => (h2 p hp).congm (fun c hc => hm _ (by omega) (by omega)) hN, fun p hp hp2 => (h3 p hp hp2).congm (fun c hc => hm _ (by omega) (by omega)), fun b hb => (h4 b hb).congm (fun c hc => hm _ (by omega) (by omega)) hN, h5, h6.congm (fun j _ hj => hm j hj (by omega))⟩
theorem RSy.tells {dl : Int32} (h : RSy N P B Q dl day votes isOpen baskets lays recs fneed clos boatO seaO faultO daysO backB sailB plc car bnd bsk dyL rsn pastF pastN mW) (hl : ∃ n, mW 8 = nI n ∧ n ≤ 30) (hP : P ≤ 20) (hB : B ≤ 6) (kd one two : Int32) : RSy N P B Q dl day votes isOpen baskets lays recs fneed clos boatO seaO faultO daysO backB sailB plc car bnd bsk dyL rsn pastF pastN (f_X12_tells mW kd one two) :=
  h.congm (fun j hj h8 => tells_out hl kd one two h8 (Or.inl hj)) (Nat.le_refl _) hP hB
/-- a boat comes home, on both sides -/
theorem st_homeY {dl : Int32} (h : RSy N P B Q dl day votes isOpen baskets lays recs fneed clos boatO seaO faultO daysO backB sailB plc car bnd bsk dyL rsn pastF pastN mW) (hl : RLg A logF logN mW) (hA : A < 100000) (hP : P ≤ 20) (hB : B ≤ 6) {i : Nat} (hi : i < B) (ho : ¬ backB i = 0) :
    (f_X10_bringHome day boatO seaO backB logF logN (nI i)).1 = (f_X12_comesHome (nI P) mW (nI i)).1 ∧
    RSy N P B Q dl day votes isOpen baskets lays recs fneed clos boatO (f_X10_bringHome day boatO seaO backB logF logN (nI i)).2.2.2.2 faultO daysO (f_X10_bringHome day boatO seaO backB logF logN (nI i)).2.1 sailB plc car bnd bsk dyL rsn pastF pastN (f_X12_comesHome (nI P) mW (nI i)).2 ∧
    RLg (A + 1) (f_X10_bringHome day boatO seaO backB logF logN (nI i)).2.2.1 (f_X10_bringHome day boatO seaO backB logF logN (nI i)).2.2.2.1 (f_X12_comesHome (nI P) mW (nI i)).2 ∧ (f_X10_bringHome day boatO seaO backB logF logN (nI i)).2.1 = upd backB i 0 := by
  obtain ⟨c1, c2, c3⟩ := m_home (P := P) (mW := mW) (fun _ _ => rfl) hP (nI i) P (Nat.le_refl _)
  have hx := x_arrive (boatO := boatO) (seaO := seaO) (backB := backB) (b := nI i) (i := i) (by omega) rfl
  have hcnt : f_X2_aboard boatO seaO (nI i) = nI (cntB (fun o => decide (mW (9 + 11 * o + 1) = nI i)) P) := by
    have a1 : f_X2_aboard boatO seaO (nI i) = nI (cntB (fun o => decide (boatO o = nI i) && !(seaO o == 0)) 20) := iter_cnt (N := 20) (fun n s hn => by
      rw [x_boatO hn, x_sea hn]
      by_cases q : boatO n = nI i
      · rw [if_pos q, decide_eq_true q]
        rfl
      · rw [if_neg q, decide_eq_false q]
        rfl) 20 (Nat.le_refl _)
    rw [a1, cntB_ext _ hP (fun o h1 h2 => by rw [(h.2.2.1 o h1 h2).2.1]; exact Bool.and_false _)]
    refine congrArg nI (cntB_cong (fun o ho => ?_))
    rcases (h.2.1 o ho).2.1 with ⟨h1, h2⟩ | ⟨h1, h2, -⟩
    · rw [h1, h2]
      show (_ && false) = _
      rw [Bool.and_false]
      exact (decide_eq_false (fun z => ne_m2 (by omega) z.symm)).symm
    · rw [h2, beq_false_of_ne h1]
      exact Bool.and_true _
  have hclamp : (nI P).toNatClampNeg = P := nI_clamp (by omega)
  have e0 : f_X12_comesHome (nI P) mW (nI i) = ((L_X12_comesHome_4 mW (nI i) P).1, f_X12_tells (upd (L_X12_comesHome_4 mW (nI i) P).2 (229 + 3 * i + 0) 0) 1 (nI i) (L_X12_comesHome_4 mW (nI i) P).1) := by
    unfold f_X12_comesHome
    rw [hclamp, show f_X12_setsBoat (L_X12_comesHome_4 mW (nI i) P).2 (nI i) 0 0 = upd (L_X12_comesHome_4 mW (nI i) P).2 (229 + 3 * i + 0) 0 from setsB_N (c := 0) (by omega) (by decide)]
  have e1 : f_X10_bringHome day boatO seaO backB logF logN (nI i) = (f_X2_aboard boatO seaO (nI i), upd backB i 0, (f_X5_add 30 logF logN day 1 (nI i) (f_X2_aboard boatO seaO (nI i))).2, (f_X5_add 30 logF logN day 1 (nI i) (f_X2_aboard boatO seaO (nI i))).1, fun j => if j < 20 then (if boatO j = nI i then 0 else seaO j) else seaO j) := by
    unfold f_X10_bringHome
    rw [hx]
  rw [e0, e1, hcnt, c1]
  dsimp only
  generalize (L_X12_comesHome_4 mW (nI i) P).2 = W at c2 c3
  have w8 : upd W (229 + 3 * i + 0) 0 8 = mW 8 := by rw [upd_ne (by omega), c3 8 (by omega)]
  have w0 : upd W (229 + 3 * i + 0) 0 0 = day := by rw [upd_ne (by omega), c3 0 (by omega), h.1.1.1]
  have hl1 : RLg A logF logN (upd W (229 + 3 * i + 0) 0) := hl.cong (Nat.le_refl _) w8 (fun j h1 h2 => by rw [upd_ne (by omega), c3 j (by omega)])
  have hcell : ∀ p c, p < 20 → c < 11 → upd W (229 + 3 * i + 0) 0 (9 + 11 * p + c) = if c = 1 ∧ p < P ∧ mW (9 + 11 * p + 1) = nI i then -2 else mW (9 + 11 * p + c) := fun p c hp hc => by rw [upd_ne (by omega), c2 p c hp hc]
  refine ⟨rfl, ?_, hl1.add hA w0 _ _ _ (lgV h.1.1.2) (Or.inr (by decide)) (lgK (by omega)) (lgK (Nat.lt_of_le_of_lt (cntB_le _ _) (by omega))), rfl⟩
  refine RSy.tells ?_ hl1.n hP hB _ _ _
  obtain ⟨r1, r2, r3, r4, r5, r6⟩ := h
  refine ⟨r1.congm (fun j hj => by rw [upd_ne (by omega), c3 j (by omega)]) (Nat.le_refl _), fun p hp => ?_, fun p hp hp2 => ?_, fun b hb => ?_, fun b hb hb2 => ?_, r6.congm (fun j h1 h2 => by rw [upd_ne (by omega), c3 j (by omega)])⟩
  · have rp := r2 p hp
    have hb0 : mW (9 + 11 * p) = boatO p := rp.1.1
    refine rp.sea ⟨?_, rp.1.2⟩ ?_ (fun c h1 h2 => by rw [hcell p c (by omega) h2, if_neg (by omega)]) (Nat.le_refl _)
    · have := hcell p 0 (by omega) (by decide)
      rw [if_neg (by omega)] at this
      exact this.trans hb0
    · rw [hcell p 1 (by omega) (by decide)]
      have s20 : (if p < 20 then (if boatO p = nI i then (0 : Int32) else seaO p) else seaO p) = if boatO p = nI i then 0 else seaO p := if_pos (by omega)
      show ((if p < 20 then (if boatO p = nI i then (0 : Int32) else seaO p) else seaO p) = 0 ∧ _) ∨ (¬ (if p < 20 then (if boatO p = nI i then (0 : Int32) else seaO p) else seaO p) = 0 ∧ _)
      rw [s20]
      rcases rp.2.1 with ⟨h1, h2⟩ | ⟨h1, h2, h3, h4⟩
      · rw [h1]
        refine Or.inl ⟨?_, ?_⟩
        · by_cases q : boatO p = nI i
          · rw [if_pos q]
          · rw [if_neg q]
        · rw [h2, if_neg (fun z => ne_m2 (by omega) z.2.2.symm)]
      · by_cases q : boatO p = nI i
        · rw [if_pos q, h2, if_pos ⟨rfl, hp, q⟩]
          exact Or.inl ⟨rfl, rfl⟩
        · rw [if_neg q, h2, if_neg (fun z => q z.2.2)]
          refine Or.inr ⟨h1, rfl, h3, ?_⟩
          obtain ⟨e, hb⟩ := vin_nI h3
          rw [upd_ne (fun z => q (by rw [e, z]))]
          exact h4
  · have rn := r3 p hp hp2
    obtain ⟨a1, a2, a3, a4, a5, a6, a7, a8, a9, a10⟩ := rn
    refine ⟨a1, ?_, a3, a4, a5, a6, a7, a8, a9, fun c hc => ?_⟩
    · show (if p < 20 then (if boatO p = nI i then (0 : Int32) else seaO p) else seaO p) = 0
      rw [if_pos hp2, a1, if_neg (fun z => ne_m2 (by omega) z.symm)]
      exact a2
    · rw [hcell p c hp2 hc, if_neg (by omega)]
      exact a10 c hc
  · by_cases q : b = i
    · subst q
      refine ⟨Or.inl ⟨upd_eq, upd_eq⟩, ?_, (r4 b hb).2.2⟩
      rw [upd_ne (by omega), c3 _ (by omega)]
      exact (r4 b hb).2.1
    · have rb := r4 b hb
      have hbk : upd backB i 0 b = backB b := upd_ne q
      unfold RBo
      rw [hbk, upd_ne (by omega), upd_ne (by omega), upd_ne (by omega), c3 _ (by omega), c3 _ (by omega), c3 _ (by omega)]
      exact rb
  · rw [upd_ne (by omega)]
    exact r5 b hb hb2
theorem st_home (h : RSx N P B Q day votes isOpen baskets lays recs fneed clos boatO seaO faultO daysO backB sailB plc car bnd bsk dyL rsn pastF pastN mW) (hl : RLg A logF logN mW) (hA : A < 100000) (hP : P ≤ 20) (hB : B ≤ 6) {i : Nat} (hi : i < B) (ho : ¬ backB i = 0) :
    (f_X10_bringHome day boatO seaO backB logF logN (nI i)).1 = (f_X12_comesHome (nI P) mW (nI i)).1 ∧
    RSx N P B Q day votes isOpen baskets lays recs fneed clos boatO (f_X10_bringHome day boatO seaO backB logF logN (nI i)).2.2.2.2 faultO daysO (f_X10_bringHome day boatO seaO backB logF logN (nI i)).2.1 sailB plc car bnd bsk dyL rsn pastF pastN (f_X12_comesHome (nI P) mW (nI i)).2 ∧
    RLg (A + 1) (f_X10_bringHome day boatO seaO backB logF logN (nI i)).2.2.1 (f_X10_bringHome day boatO seaO backB logF logN (nI i)).2.2.2.1 (f_X12_comesHome (nI P) mW (nI i)).2 ∧ (f_X10_bringHome day boatO seaO backB logF logN (nI i)).2.1 = upd backB i 0 := st_homeY (dl := day) h hl hA hP hB hi ho
end OT
