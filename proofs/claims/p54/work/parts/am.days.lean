/-! DAYS: what passes in them, and that they may pass one by one -/
abbrev DyT : Type := (Nat → Int32) × Int32 × (Nat → Int32) × (Nat → Int32) × Int32 × (Nat → Int32)
section DAY
variable {boatO : Nat → Int32}
/-- a day: what it does to boats, day, days at sea, log, people at sea -/
def dayS (boatO : Nat → Int32) (s : DyT) : DyT :=
  ((f_X10_bringHomeTodays (s.2.1 + 1) boatO s.2.2.2.2.2 s.1 s.2.2.2.1 s.2.2.2.2.1).2.1, s.2.1 + 1, f_X2_countDayAtSea s.2.2.2.2.2 s.2.2.1, (f_X10_bringHomeTodays (s.2.1 + 1) boatO s.2.2.2.2.2 s.1 s.2.2.2.1 s.2.2.2.2.1).2.2.1, (f_X10_bringHomeTodays (s.2.1 + 1) boatO s.2.2.2.2.2 s.1 s.2.2.2.1 s.2.2.2.2.1).2.2.2.1, (f_X10_bringHomeTodays (s.2.1 + 1) boatO s.2.2.2.2.2 s.1 s.2.2.2.1 s.2.2.2.2.1).2.2.2.2)
def daysS (boatO : Nat → Int32) (s : DyT) (n : Nat) : DyT := iter_ (fun _ s => dayS boatO s) s n
theorem daysS_z (s : DyT) : daysS boatO s 0 = s := iter_z _ _
theorem daysS_s (s : DyT) (n : Nat) : daysS boatO s (n + 1) = dayS boatO (daysS boatO s n) := iter_s _ _ _
theorem daysS_add (s : DyT) (m : Nat) : ∀ n, daysS boatO s (m + n) = daysS boatO (daysS boatO s m) n
  | 0 => (daysS_z _).symm
  | n + 1 => by
    rw [daysS_s, ← daysS_add s m n]
    exact daysS_s s (m + n)
theorem pass_is (day : Int32) (seaO daysO backB logF : Nat → Int32) (logN : Int32) : ∀ n, (L_X10_letDaysPass_4 day boatO seaO daysO backB logF logN n).2 = daysS boatO (backB, day, daysO, logF, logN, seaO) n
  | 0 => by
    rw [daysS_z]
    exact congrArg Prod.snd (iter_z _ _)
  | n + 1 => by
    rw [daysS_s, ← pass_is day seaO daysO backB logF logN n]
    exact congrArg Prod.snd (iter_s _ _ _)
/-- the boats that come home on a day, and who is aboard -/
theorem today_cl {day2 : Int32} (hd : ¬ day2 = 0) (seaO backB logF : Nat → Int32) (logN : Int32) : ∀ n, n ≤ 6 → (∀ b, b < 6 → (L_X10_bringHomeTodays_4 day2 boatO seaO backB logF logN n).2.1 b = if b < n ∧ backB b = day2 then 0 else backB b) ∧ (∀ p, p < 20 → ((L_X10_bringHomeTodays_4 day2 boatO seaO backB logF logN n).2.2.2.2 p = 0 ↔ (seaO p = 0 ∨ ∃ b, b < n ∧ boatO p = nI b ∧ backB b = day2))) := by
  refine iter_inv (I := fun n (s : Int32 × (Nat → Int32) × (Nat → Int32) × Int32 × (Nat → Int32)) => (∀ b, b < 6 → s.2.1 b = if b < n ∧ backB b = day2 then 0 else backB b) ∧ (∀ p, p < 20 → (s.2.2.2.2 p = 0 ↔ (seaO p = 0 ∨ ∃ b, b < n ∧ boatO p = nI b ∧ backB b = day2)))) (N := 6) ⟨fun b hb => (if_neg (fun z => absurd z.1 (Nat.not_lt_zero b))).symm, fun p hp => ⟨fun z => Or.inl z, fun z => z.elim id (fun ⟨b, h, _⟩ => absurd h (Nat.not_lt_zero b))⟩⟩ (fun n s hn hs => ?_)
  obtain ⟨h1, h2⟩ := hs
  have hbn : s.2.1 n = backB n := by rw [h1 n hn, if_neg (fun z => absurd z.1 (Nat.lt_irrefl n))]
  have stay : ¬ backB n = day2 → (∀ b, b < 6 → s.2.1 b = if b < n + 1 ∧ backB b = day2 then 0 else backB b) ∧ (∀ p, p < 20 → (s.2.2.2.2 p = 0 ↔ (seaO p = 0 ∨ ∃ b, b < n + 1 ∧ boatO p = nI b ∧ backB b = day2))) := fun q => by
    refine ⟨fun b hb => ?_, fun p hp => ?_⟩
    · rw [h1 b hb]
      by_cases z : b < n ∧ backB b = day2
      · rw [if_pos z, if_pos ⟨Nat.lt_succ_of_lt z.1, z.2⟩]
      · rw [if_neg z, if_neg (fun w => z ⟨Nat.lt_of_le_of_ne (Nat.le_of_lt_succ w.1) (fun e => q (e ▸ w.2)), w.2⟩)]
    · rw [h2 p hp]
      refine ⟨fun z => z.elim Or.inl (fun ⟨b, a1, a2, a3⟩ => Or.inr ⟨b, Nat.lt_succ_of_lt a1, a2, a3⟩), fun z => z.elim Or.inl (fun ⟨b, a1, a2, a3⟩ => Or.inr ⟨b, Nat.lt_of_le_of_ne (Nat.le_of_lt_succ a1) (fun e => q (e ▸ a3)), a2, a3⟩)⟩
  show (∀ b, b < 6 → (bif f_X2_isOut s.2.1 (nI n) then (if f_X2_backOf s.2.1 (nI n) = day2 then _ else _) else _ : Int32 × (Nat → Int32) × (Nat → Int32) × Int32 × (Nat → Int32)).2.1 b = _) ∧ _
  rw [x_out hn, x_backB hn, hbn]
  by_cases q0 : backB n = 0
  · rw [q0]
    exact stay (fun z => hd (z.symm.trans q0))
  rw [beq_false_of_ne q0]
  by_cases q : backB n = day2
  · simp only [Bool.not_false, cond_true, if_pos q]
    have e : f_X10_bringHome day2 boatO s.2.2.2.2 s.2.1 s.2.2.1 s.2.2.2.1 (nI n) = (f_X2_aboard boatO s.2.2.2.2 (nI n), upd s.2.1 n 0, (f_X10_bringHome day2 boatO s.2.2.2.2 s.2.1 s.2.2.1 s.2.2.2.1 (nI n)).2.2.1, (f_X10_bringHome day2 boatO s.2.2.2.2 s.2.1 s.2.2.1 s.2.2.2.1 (nI n)).2.2.2.1, fun j => if j < 20 then (if boatO j = nI n then 0 else s.2.2.2.2 j) else s.2.2.2.2 j) := by
      have ha := x_arrive (boatO := boatO) (seaO := s.2.2.2.2) (backB := s.2.1) (b := nI n) hn rfl
      unfold f_X10_bringHome
      rw [ha]
    rw [e]
    refine ⟨fun b hb => ?_, fun p hp => ?_⟩
    · show upd s.2.1 n 0 b = _
      by_cases z : b = n
      · subst z
        rw [upd_eq, if_pos ⟨Nat.lt_succ_self _, q⟩]
      · rw [upd_ne z, h1 b hb]
        by_cases w : b < n ∧ backB b = day2
        · rw [if_pos w, if_pos ⟨Nat.lt_succ_of_lt w.1, w.2⟩]
        · rw [if_neg w, if_neg (fun y => w ⟨Nat.lt_of_le_of_ne (Nat.le_of_lt_succ y.1) z, y.2⟩)]
    · show (if p < 20 then (if boatO p = nI n then 0 else s.2.2.2.2 p) else s.2.2.2.2 p) = 0 ↔ _
      rw [if_pos hp]
      by_cases z : boatO p = nI n
      · rw [if_pos z]
        exact ⟨fun _ => Or.inr ⟨n, Nat.lt_succ_self n, z, q⟩, fun _ => rfl⟩
      · rw [if_neg z, h2 p hp]
        exact ⟨fun y => y.elim Or.inl (fun ⟨b, a1, a2, a3⟩ => Or.inr ⟨b, Nat.lt_succ_of_lt a1, a2, a3⟩), fun y => y.elim Or.inl (fun ⟨b, a1, a2, a3⟩ => Or.inr ⟨b, Nat.lt_of_le_of_ne (Nat.le_of_lt_succ a1) (fun w => z (w ▸ a2)), a2, a3⟩)⟩
  · simp only [Bool.not_false, cond_true, if_neg q]
    exact stay q
end DAY
section PAS
variable {N P B Q : Nat} {v : VT}
def dy0 (v : VT) : DyT := (v_backB v, v_day v, v_daysO v, v_logF v, v_logN v, v_seaO v)
/-- the state behind days -/
def mkP (v : VT) (s : DyT) : StT := (s.2.1, v_votes v, v_isOpen v, v_baskets v, v_lays v, v_recs v, v_fneed v, v_clos v, v_boatO v, s.2.2.2.2.2, v_faultO v, s.2.2.1, s.1, v_sailB v, v_plc v, v_car v, v_bnd v, v_bsk v, v_dyL v, v_rsn v, v_pastF v, v_pastN v, s.2.2.2.1, s.2.2.2.2.1)
theorem days_ok {d : Nat} (h1 : 1 ≤ d) (h2 : d ≤ 99) : f_X11_isDays (nI d) = true := by
  unfold f_X11_isDays
  rw [if_neg (show ¬ nI d < (1 : Int32) from fun z => absurd ((nI_ltI (b := 1) (by omega) (by decide)).mp z) (by omega)), if_neg (show ¬ (99 : Int32) < nI d from fun z => absurd ((nI_ltI (a := 99) (by decide) (by omega)).mp z) (by omega))]
theorem pass_new (v : VT) {d : Nat} (h1 : 1 ≤ d) (h2 : d ≤ 99) : n_pass v (nI d) = (mkP v (daysS (v_boatO v) (dy0 v) d), v.2.1, rem_h v, v.2.2.2.1, v.2.2.2.2.1, v.2.2.2.2.2) := by
  have h := (lf_pass_0 v (nI d) (days_ok h1 h2)).2
  rw [h]
  have e := pass_is (boatO := v_boatO v) (v_day v) (v_seaO v) (v_daysO v) (v_backB v) (v_logF v) (v_logN v) d
  unfold f_X10_letDaysPass
  rw [nI_clamp (by omega)]
  show (mkP v (L_X10_letDaysPass_4 (v_day v) (v_boatO v) (v_seaO v) (v_daysO v) (v_backB v) (v_logF v) (v_logN v) d).2, v.2.1, rem_h v, v.2.2.2.1, v.2.2.2.2.1, v.2.2.2.2.2) = _
  rw [e]
  rfl
/-- days one behind another -/
theorem pass_two (v : VT) {a b : Nat} (ha : 1 ≤ a) (hb : 1 ≤ b) (h : a + b ≤ 99) : (n_pass (n_pass v (nI a)) (nI b)).1 = (n_pass v (nI (a + b))).1 := by
  rw [pass_new (n_pass v (nI a)) hb (by omega), pass_new v ha (by omega), pass_new v (by omega) h, daysS_add]
  rfl
theorem pass_cl (hR : RA N P B Q v) (hN : N ≤ 600) : ∀ n, n ≤ 99 → (daysS (v_boatO v) (dy0 v) n).2.1 = v_day v + nI n ∧ (∀ b, b < 6 → (daysS (v_boatO v) (dy0 v) n).1 b = if v_backB v b ≤ v_day v + nI n then 0 else v_backB v b) ∧ (∀ p, p < 20 → ((daysS (v_boatO v) (dy0 v) n).2.2.2.2.2 p = 0 ↔ (v_seaO v p = 0 ∨ ∃ b, b < 6 ∧ v_boatO v p = nI b ∧ v_backB v b ≤ v_day v + nI n))) := by
  obtain ⟨d, ed, hd⟩ := (ra_sc hR).1
  have hB6 := (ra_nB hR).2
  intro n
  induction n with
  | zero =>
    intro _
    rw [daysS_z, ed, nI_add, Nat.add_zero]
    refine ⟨ed, fun b hb => ?_, fun p hp => ?_⟩
    · show v_backB v b = _
      rcases ra_bo6 hR hb with z | ⟨k, e, hk, hlt⟩
      · rw [z, if_pos (nI_pos' (by omega))]
      · rw [ed] at hlt
        rw [if_neg (fun w => absurd hlt (Int32.not_lt.mpr w))]
    · show v_seaO v p = 0 ↔ _
      refine ⟨Or.inl, fun z => z.elim id (fun ⟨b, a1, a2, a3⟩ => Classical.byContradiction fun w => ?_)⟩
      rcases Nat.lt_or_ge p P with h | h
      · rcases (ra_pe hR h).2.1 with y | ⟨-, -, y⟩
        · exact w y
        · rw [a2, nI_clamp (by omega)] at y
          obtain ⟨k, e, hk, hlt⟩ := (ra_bo6 hR a1).resolve_left y
          rw [ed] at hlt
          exact absurd hlt (Int32.not_lt.mpr a3)
      · exact w (ra_no hR h hp).2.1
  | succ n ih =>
    intro hn
    obtain ⟨i1, i2, i3⟩ := ih (by omega)
    rw [daysS_s]
    generalize daysS (v_boatO v) (dy0 v) n = s at i1 i2 i3
    have eD : s.2.1 + 1 = nI (d + n + 1) := by
      rw [i1, ed, nI_add, show (1 : Int32) = nI 1 from rfl, nI_add]
    have eD2 : v_day v + nI (n + 1) = nI (d + n + 1) := by
      rw [ed, nI_add]
      rfl
    have eD1 : v_day v + nI n = nI (d + n) := by rw [ed, nI_add]
    have hD0 : ¬ nI (d + n + 1) = 0 := nI_ne0 (by omega) (by omega)
    obtain ⟨t1, t2⟩ := today_cl (boatO := v_boatO v) (day2 := nI (d + n + 1)) hD0 s.2.2.2.2.2 s.1 s.2.2.2.1 s.2.2.2.2.1 6 (Nat.le_refl _)
    rw [eD1] at i2 i3
    rw [eD2]
    have hk : ∀ b, b < 6 → v_backB v b = 0 ∨ ∃ k, v_backB v b = nI k ∧ k ≤ 198 * N := fun b hb => (ra_bo6 hR hb).elim Or.inl (fun ⟨k, e, hk, _⟩ => Or.inr ⟨k, e, hk⟩)
    refine ⟨eD, fun b hb => ?_, fun p hp => ?_⟩
    · show (f_X10_bringHomeTodays (s.2.1 + 1) (v_boatO v) s.2.2.2.2.2 s.1 s.2.2.2.1 s.2.2.2.2.1).2.1 b = _
      rw [eD]
      refine (t1 b hb).trans ?_
      rw [i2 b hb]
      rcases hk b hb with z | ⟨k, e, hk2⟩
      · rw [z, if_pos (nI_pos' (by omega)), if_pos (nI_pos' (by omega))]
        split <;> rfl
      · rw [e]
        rcases Nat.lt_trichotomy k (d + n + 1) with z | z | z
        · rw [if_pos (nI_le (b := d + n) (by omega) (by omega)), if_pos (nI_le (b := d + n + 1) (by omega) (by omega))]
          split <;> rfl
        · rw [if_neg (nI_ge (by omega) (by omega)), if_pos (nI_le (b := d + n + 1) (by omega) (by omega)), if_pos ⟨hb, by rw [z]⟩]
        · rw [if_neg (nI_ge (a := d + n) (by omega) (by omega)), if_neg (nI_ge (a := d + n + 1) (by omega) (by omega)), if_neg (fun w => absurd ((nI_eq (by omega) (by omega)).mp w.2) (by omega))]
    · show (f_X10_bringHomeTodays (s.2.1 + 1) (v_boatO v) s.2.2.2.2.2 s.1 s.2.2.2.1 s.2.2.2.2.1).2.2.2.2 p = 0 ↔ _
      rw [eD]
      refine (t2 p hp).trans ?_
      rw [i3 p hp]
      constructor
      · rintro ((z | ⟨b, a1, a2, a3⟩) | ⟨b, a1, a2, a3⟩)
        · exact Or.inl z
        · refine Or.inr ⟨b, a1, a2, ?_⟩
          exact Int32.le_trans a3 (nI_le (by omega) (by omega))
        · refine Or.inr ⟨b, a1, a2, ?_⟩
          rw [i2 b a1] at a3
          by_cases w : v_backB v b ≤ nI (d + n)
          · exact Int32.le_trans w (nI_le (by omega) (by omega))
          · rw [if_neg w] at a3
            rw [a3]
            exact Int32.le_refl _
      · rintro (z | ⟨b, a1, a2, a3⟩)
        · exact Or.inl (Or.inl z)
        · by_cases w : v_backB v b ≤ nI (d + n)
          · exact Or.inl (Or.inr ⟨b, a1, a2, w⟩)
          · refine Or.inr ⟨b, a1, a2, ?_⟩
            rw [i2 b a1, if_neg w]
            rcases hk b a1 with z | ⟨k, e, hk2⟩
            · rw [z] at w
              exact absurd (nI_pos' (by omega)) w
            · rw [e] at a3 w ⊢
              have q1 := (nI_leI (by omega) (by omega)).mp a3
              have q2 : ¬ k ≤ d + n := fun y => w (nI_le y (by omega))
              exact congrArg nI (by omega)
/-- what is told ahead of a day comes so -/
theorem sur_ok (hR : RA N P B Q v) (hN : N ≤ 600) {d : Nat} (h1 : 1 ≤ d) (h2 : d ≤ 99) {Q2 : Nat} (hR2 : RA (N + 1) P B Q2 (n_pass v (nI d))) : a_value (n_pass v (nI d)) 15 - a_needIn (n_pass v (nI d)) 0 = f_X10_surplusBehind (v_nums v) (v_nP v) (v_day v) (v_boatO v) (v_seaO v) (v_backB v) (nI d) ∧ a_needIn (n_pass v (nI d)) 0 = f_X10_needBehind (v_nums v) (v_nP v) (v_day v) (v_backB v) (nI d) := by
  obtain ⟨c1, c2, c3⟩ := pass_cl hR hN d h2
  have hB6 := (ra_nB hR).2
  have e := pass_new v h1 h2
  have en : a_needIn (n_pass v (nI d)) 0 = f_X10_needBehind (v_nums v) (v_nP v) (v_day v) (v_backB v) (nI d) := by
    rw [needIn_0 hR2, e]
    show f_X10_needOf (v_nums v) (v_nP v) (daysS (v_boatO v) (dy0 v) d).2.1 (f_X2_boatsOut (daysS (v_boatO v) (dy0 v) d).1) = _
    unfold f_X10_needBehind
    rw [c1, out_n, outOn_n]
    refine congrArg (f_X10_needOf (v_nums v) (v_nP v) (v_day v + nI d)) (congrArg nI (cntB_cong (fun b hb => ?_)))
    rw [c2 b hb]
    by_cases q : v_backB v b ≤ v_day v + nI d
    · rw [if_pos q, decide_eq_true q]
      simp
    · rw [if_neg q, decide_eq_false q]
      simp
  refine ⟨?_, en⟩
  unfold f_X10_surplusBehind
  rw [← en, av_15]
  have es : f_X2_peopleAtSea (v_seaO (n_pass v (nI d))) = f_X2_peopleAtSeaOn (v_boatO v) (v_seaO v) (v_backB v) (v_day v + nI d) := by
    rw [e]
    show f_X2_peopleAtSea (daysS (v_boatO v) (dy0 v) d).2.2.2.2.2 = _
    rw [atsea_n, atseaOn_n]
    refine congrArg nI (cntB_cong (fun p hp => ?_))
    have h3 := c3 p hp
    by_cases q : v_seaO v p = 0
    · rw [decide_eq_true (h3.mpr (Or.inl q)), decide_eq_true q]
      rfl
    · have hbo : ∃ b, b < B ∧ v_boatO v p = nI b := by
        rcases Nat.lt_or_ge p P with h | h
        · rcases (ra_pe hR h).2.1 with y | ⟨-, y, -⟩
          · exact absurd y q
          · obtain ⟨e1, e2⟩ := vin_nI y
            exact ⟨_, e2, e1⟩
        · exact absurd (ra_no hR h hp).2.1 q
      obtain ⟨b, hb, eb⟩ := hbo
      rw [decide_eq_false q, eb, x_backB (by omega)]
      by_cases w : v_backB v b ≤ v_day v + nI d
      · rw [decide_eq_true (h3.mpr (Or.inr ⟨b, by omega, eb, w⟩)), decide_eq_true w]
        rfl
      · rw [decide_eq_false w, decide_eq_false (fun y => (h3.mp y).elim q (fun ⟨b2, a1, a2, a3⟩ => w (by
          have : b2 = b := nI_inj6 (by omega) (by omega) (a2.symm.trans eb)
          rw [← this]
          exact a3)))]
        rfl
  rw [es, e]
  rfl
end PAS
