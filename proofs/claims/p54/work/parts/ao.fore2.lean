/-! WHAT IS TOLD AHEAD: canWin, the best day -/
theorem RES_inv {c : Nat → Nat} {need : Int32} {b : Nat} (hb : b < 4) (h : RES c need = nI b) : ¬ nI (smN c 4) < need ∧ 0 < cnt c b ∧ cnt c b = mxN c 4 := by
  have hne : ¬ (-2 : Int32) = nI b := fun z => ne_m2 (i := b) (by omega) z.symm
  unfold RES at h
  by_cases q1 : nI (smN c 4) < need
  · rw [if_pos q1] at h
    exact absurd h hne
  rw [if_neg q1] at h
  by_cases q2 : smN c 4 = 0
  · rw [if_pos q2] at h
    exact absurd h hne
  rw [if_neg q2] at h
  obtain ⟨k0, hk0, hk1, hk2⟩ := res_some q2
  have hyes := of_decide_eq_true (wh_yes 19 (fun o => decide (c o < 4 ∧ cnt c (c o) = mxN c 4)) ⟨k0, hk0, decide_eq_true ⟨hk1, hk2⟩⟩)
  generalize wh_ (fun o => decide (c o < 4 ∧ cnt c (c o) = mxN c 4)) 19 = k at hyes h
  rw [bk_in hyes.1] at h
  have e : c k = b := nI_inj6 (by omega) (by omega) h
  have hmx : 0 < mxN c 4 := Nat.pos_of_ne_zero (fun z => q2 (sm_mx c 4 z))
  rw [e] at hyes
  exact ⟨q1, by omega, hyes.2⟩
theorem RES_max {c : Nat → Nat} {need : Int32} {b : Nat} (hb : b < 4) (h1 : ¬ nI (smN c 4) < need) (h2 : 0 < cnt c b) (h3 : ∀ x, x < 4 → x ≠ b → cnt c x < cnt c b) : RES c need = nI b := by
  have hs := cnt_sm c 4 b hb
  unfold RES
  rw [if_neg h1, if_neg (by omega)]
  obtain ⟨k0, hk0, hk1, hk2⟩ := res_some (c := c) (by omega)
  have hyes := of_decide_eq_true (wh_yes 19 (fun o => decide (c o < 4 ∧ cnt c (c o) = mxN c 4)) ⟨k0, hk0, decide_eq_true ⟨hk1, hk2⟩⟩)
  generalize wh_ (fun o => decide (c o < 4 ∧ cnt c (c o) = mxN c 4)) 19 = k at hyes
  have hm := cnt_mx c 4 b hb
  have e : c k = b := Classical.byContradiction fun q => by
    have := h3 (c k) hyes.1 q
    omega
  rw [e]
  exact bk_in hb
section FO2
variable {N P B Q : Nat} {v : VT}
/-- where the sticks lie if all that can be laid are laid into one basket -/
def cW (v : VT) (P b : Nat) : Nat → Nat := fun o => if v_plc v o = 2 then (v_bsk v o).toNatClampNeg else if (decide (o < P) && f_X10_canBeLaid (v_seaO v) (v_plc v) (v_car v) (nI o)) = true then b else 4
theorem can_res (hR : RA N P B Q v) {b : Nat} (hb : b < 4) (bl bc : Nat → Int32) (need : Int32) : (f_X0_result (L_X10_resultWithAllInto_16 (v_seaO v) (v_plc v) (v_car v) (v_bsk v) bl (nI b) P) bc need).1 = RES (cW v P b) need := by
  have h20 := (ra_nP hR).2.2
  refine x_result (fun o ho => ?_) bc _
  have e : L_X10_resultWithAllInto_16 (v_seaO v) (v_plc v) (v_car v) (v_bsk v) bl (nI b) P = fun j => if j < P then (fun n y => if f_X10_canBeLaid (v_seaO v) (v_plc v) (v_car v) (nI n) = true then nI b else y) j (f_X0_takeFrom bl (v_plc v) (v_bsk v) j) else f_X0_takeFrom bl (v_plc v) (v_bsk v) j :=
    iter_row (N := P) (g := fun n y => if f_X10_canBeLaid (v_seaO v) (v_plc v) (v_car v) (nI n) = true then nI b else y) (fun n t hn => by
      unfold f_X0_put
      rw [setCell_nI (by decide) (by omega)]
      cases f_X10_canBeLaid (v_seaO v) (v_plc v) (v_car v) (nI n)
      · rw [if_neg (by decide), upd_self]
        rfl
      · rw [if_pos rfl]
        rfl) _ P (Nat.le_refl _)
  rw [e]
  show (if o < P then _ else _) = bk (if v_plc v o = 2 then _ else _)
  dsimp only
  rw [x_take ho]
  by_cases z : v_plc v o = 2
  · have hp : o < P := by
      rcases Nat.lt_or_ge o P with h | h
      · exact h
      · rw [(ra_no hR h ho).2.2.2.2.1] at z
        exact absurd z (by decide)
    obtain ⟨e, h2⟩ := vin_nI ((ra_pe hR hp).2.2.2.2.2.2.2.2.2.2.2.2 (Or.inl z)).1
    have hc0 : ¬ f_X10_canBeLaid (v_seaO v) (v_plc v) (v_car v) (nI o) = true := fun y => absurd z (canL_0 ho y)
    rw [if_pos hp, if_neg hc0, if_pos z, if_pos z, bk_in h2]
    exact e
  · rw [if_neg z, if_neg z]
    by_cases hp : o < P
    · rw [if_pos hp, decide_eq_true hp, Bool.true_and]
      cases y : f_X10_canBeLaid (v_seaO v) (v_plc v) (v_car v) (nI o)
      · rw [if_neg (by decide), if_neg (by decide)]
        rfl
      · rw [if_pos rfl, if_pos rfl, bk_in hb]
    · rw [if_neg hp, decide_eq_false hp, Bool.false_and, if_neg (by decide)]
      rfl
theorem can_more {b : Nat} (hb : b < 4) (x : Nat) (hx : x < 4) : (x ≠ b → cnt (cW v P b) x = cnt (cS (v_plc v) (v_bsk v) (fun _ => true)) x) ∧ cnt (cS (v_plc v) (v_bsk v) (fun _ => true)) b ≤ cnt (cW v P b) b := by
  refine ⟨fun q => cntB_cong (fun o ho => ?_), cntB_mono (fun o ho z => ?_)⟩
  · unfold cW cS
    by_cases z : v_plc v o = 2
    · rw [if_pos z, if_pos ⟨z, rfl⟩]
    · rw [if_neg z, if_neg (show ¬ (v_plc v o = 2 ∧ (fun _ => true) o = true) from fun y => z y.1)]
      split
      · rw [decide_eq_false (fun y => q y.symm), decide_eq_false (by omega)]
      · rfl
  · have z := of_decide_eq_true z
    unfold cS at z
    refine decide_eq_true ?_
    unfold cW
    by_cases w : v_plc v o = 2
    · rw [if_pos ⟨w, rfl⟩] at z
      rw [if_pos w]
      exact z
    · rw [if_neg (fun y => w y.1)] at z
      omega
theorem fo_can (hR : RA N P B Q v) (hX : EX P v) (h : a_value v 8 = 1) {b : Nat} (hb : b < 4) : (a_canWin v (nI b) = 0 ∨ (a_canWin v (nI b) = 1 ∧ nI b < a_value v 9)) ∧ (a_leads v = nI b → a_canWin v (nI b) = 1) := by
  obtain ⟨hv, ho⟩ := (state_1 v).mp h
  have h20 := (ra_nP hR).2.2
  have hP := (ra_nP hR).1
  have key : ∀ hlt : nI b < v_baskets v, a_canWin v (nI b) = if RES (cW v P b) (a_value v 6) = nI b then 1 else 0 := fun hlt => by
    have e1 : (S_X11_canWin_35 (v_nums v) (v_nP v) (v_day v) (v_votes v) (v_isOpen v) (v_fneed v) (v_seaO v) (v_backB v) (v_plc v) (v_car v) (v_bsk v) z0 z0 (nI b)).1 = RES (cW v P b) (a_value v 6) := by
      unfold S_X11_canWin_35 f_X10_resultWithAllInto
      rw [av_6, ← can_res hR hb z0 z0]
      have eP : (f_X7_people (v_nP v)).toNatClampNeg = P := by
        show (v_nP v).toNatClampNeg = P
        rw [hP, nI_clamp (by omega)]
      rw [eP]
    unfold a_canWin f_X11_canWin
    rw [isBk hb, cond_true, ho, cond_true, if_pos hlt, e1]
    by_cases q : RES (cW v P b) (a_value v 6) = nI b
    · rw [if_pos q, if_pos q]
      rfl
    · rw [if_neg q, if_neg q]
      rfl
  refine ⟨?_, fun hl => ?_⟩
  · by_cases hlt : nI b < v_baskets v
    · rw [key hlt, av_9]
      split
      · exact Or.inr ⟨rfl, hlt⟩
      · exact Or.inl rfl
    · refine Or.inl ?_
      unfold a_canWin f_X11_canWin
      rw [isBk hb, cond_true, ho, cond_true, if_neg hlt]
      rfl
  · rw [leads_res hR ho] at hl
    obtain ⟨r1, r2, r3⟩ := RES_inv hb hl
    have hlt : nI b < v_baskets v := by
      obtain ⟨o, ho1, ho2⟩ := cntB_some r2
      rw [cS_ra hR _ ho1 hb, Bool.and_true, Bool.and_eq_true, decide_eq_true_eq, decide_eq_true_eq] at ho2
      rw [← ho2.2]
      rcases Nat.lt_or_ge o P with z | z
      · exact (hX.1 o z).2.2 (Or.inl ho2.1)
      · rw [(ra_no hR z ho1).2.2.2.2.1] at ho2
        exact absurd ho2.1 (by decide)
    rw [key hlt, if_pos]
    have hmore := fun x hx => can_more (v := v) (P := P) hb x hx
    have hb2 := (hmore b hb).2
    have hsum : smN (cS (v_plc v) (v_bsk v) (fun _ => true)) 4 ≤ smN (cW v P b) 4 := by
      have e : ∀ x, x < 4 → cnt (cS (v_plc v) (v_bsk v) (fun _ => true)) x ≤ cnt (cW v P b) x := fun x hx => by
        by_cases q : x = b
        · rw [q]
          exact hb2
        · rw [(hmore x hx).1 q]
          exact Nat.le_refl _
      have e0 := e 0 (by decide)
      have e1 := e 1 (by decide)
      have e2 := e 2 (by decide)
      have e3 := e 3 (by decide)
      show 0 + cnt _ 0 + cnt _ 1 + cnt _ 2 + cnt _ 3 ≤ 0 + cnt _ 0 + cnt _ 1 + cnt _ 2 + cnt _ 3
      omega
    have hs80 := smN_le (cW v P b) 4
    have hneed : ¬ nI (smN (cW v P b) 4) < a_value v 6 := fun z => r1 (Int32.lt_of_le_of_lt (nI_le hsum (by omega)) z)
    by_cases q : cnt (cW v P b) b = cnt (cS (v_plc v) (v_bsk v) (fun _ => true)) b
    · rw [← hl]
      refine RES_cong (fun o ho1 => ?_) _
      have hall : ∀ o, o < 20 → decide (cW v P b o = b) = decide (cS (v_plc v) (v_bsk v) (fun _ => true) o = b) := by
        intro o ho1
        refine Classical.byContradiction fun w => ?_
        have himp : ∀ i, i < 20 → decide (cS (v_plc v) (v_bsk v) (fun _ => true) i = b) = true → decide (cW v P b i = b) = true := fun i hi z => by
          have z := of_decide_eq_true z
          unfold cS at z
          refine decide_eq_true ?_
          unfold cW
          by_cases w : v_plc v i = 2
          · rw [if_pos ⟨w, rfl⟩] at z
            rw [if_pos w]
            exact z
          · rw [if_neg (fun y => w y.1)] at z
            omega
        have hlt2 : cnt (cS (v_plc v) (v_bsk v) (fun _ => true)) b < cnt (cW v P b) b := by
          have h1 : decide (cS (v_plc v) (v_bsk v) (fun _ => true) o = b) = false := by
            cases z : decide (cS (v_plc v) (v_bsk v) (fun _ => true) o = b)
            · rfl
            · exact absurd ((himp o ho1 z).trans z.symm) w
          have h2 : decide (cW v P b o = b) = true := by
            cases z : decide (cW v P b o = b)
            · exact absurd (z.trans h1.symm) w
            · rfl
          have h3 : cntB (fun i => decide (cS (v_plc v) (v_bsk v) (fun _ => true) i = b) || decide (i = o)) 20 = cnt (cS (v_plc v) (v_bsk v) (fun _ => true)) b + 1 :=
            cntB_set (i := o) (fun k hk => by rw [decide_eq_false hk, Bool.or_false]) h1 (by rw [decide_eq_true rfl, Bool.or_true]) ho1
          have h4 : cntB (fun i => decide (cS (v_plc v) (v_bsk v) (fun _ => true) i = b) || decide (i = o)) 20 ≤ cnt (cW v P b) b := cntB_mono (fun i hi z => by
            rw [Bool.or_eq_true] at z
            rcases z with z | z
            · exact himp i hi z
            · rw [of_decide_eq_true z]
              exact h2)
          omega
        omega
      have h1 := hall o ho1
      unfold cW cS at h1 ⊢
      by_cases w : v_plc v o = 2
      · rw [if_pos w, if_pos ⟨w, rfl⟩]
      · rw [if_neg w, if_neg (show ¬ (v_plc v o = 2 ∧ (fun _ => true) o = true) from fun y => w y.1)] at h1 ⊢
        split
        · rename_i w2
          rw [if_pos w2, decide_eq_true rfl, decide_eq_false (by omega)] at h1
          exact absurd h1 (by decide)
        · rfl
    · refine RES_max hb hneed (by omega) (fun x hx hxb => ?_)
      rw [(hmore x hx).1 hxb]
      have := cnt_mx (cS (v_plc v) (v_bsk v) (fun _ => true)) 4 x hx
      omega
/-! the best day -/
def sur (v : VT) (d : Nat) : Int32 := f_X10_surplusBehind (v_nums v) (v_nP v) (v_day v) (v_boatO v) (v_seaO v) (v_backB v) (nI d)
def bst (v : VT) (n : Nat) : Int32 × Int32 := L_X10_bestDayUpTo_11 (v_nums v) (v_nP v) (v_day v) (v_boatO v) (v_seaO v) (v_backB v) n
def prS (v : VT) : Nat → Int32 × Int32
  | 0 => (-100, 0)
  | n + 1 => bst v n
theorem bst_z (v : VT) : bst v 0 = (sur v 0, 0) := iter_z _ _
theorem bst_s (v : VT) (n : Nat) : bst v (n + 1) = if sur v (n + 1) ≤ (bst v n).1 then ((bst v n).1, (bst v n).2) else (sur v (n + 1), nI (n + 1)) := iter_s _ _ _
theorem sea_now (hR : RA N P B Q v) : f_X2_peopleAtSeaOn (v_boatO v) (v_seaO v) (v_backB v) (v_day v) = f_X2_peopleAtSea (v_seaO v) := by
  have hB6 := (ra_nB hR).2
  rw [atsea_n, atseaOn_n]
  refine congrArg nI (cntB_cong (fun p hp => ?_))
  by_cases q : v_seaO v p = 0
  · rw [q]
    rfl
  · have hbo : ∃ b, b < B ∧ v_boatO v p = nI b ∧ ¬ v_backB v b = 0 := by
      rcases Nat.lt_or_ge p P with h | h
      · rcases (ra_pe hR h).2.1 with y | ⟨-, y, y2⟩
        · exact absurd y q
        · obtain ⟨e1, e2⟩ := vin_nI y
          exact ⟨_, e2, e1, y2⟩
      · exact absurd (ra_no hR h hp).2.1 q
    obtain ⟨b, hb, eb, hz⟩ := hbo
    obtain ⟨k, e, hk, hlt⟩ := (ra_bo hR hb).resolve_left hz
    rw [decide_eq_false q, eb, x_backB (by omega), decide_eq_false (fun z => absurd hlt (Int32.not_lt.mpr z))]
    rfl
theorem sur_0 (hR : RA N P B Q v) : a_value v 15 - a_needIn v 0 = sur v 0 := by
  unfold sur f_X10_surplusBehind
  rw [av_15, show v_day v + nI 0 = v_day v from Int32.add_zero _, sea_now hR]
  rfl
theorem sur_0_big (hR : RA N P B Q v) (hN : N ≤ 600) : ¬ sur v 0 ≤ -100 := by
  obtain ⟨d, ed, hd⟩ := (ra_sc hR).1
  obtain ⟨hP1, hP2, h20⟩ := ra_nP hR
  obtain ⟨X, l, m, h1, -, h2, h3, hn⟩ := need_int hR (d := d) (by omega)
  have hk := hn _ (out_le (v_backB v))
  rw [hP1] at hk
  rw [← sur_0 hR, needIn_0 hR, av_15, hP1, atsea_n, ed, out_n]
  generalize f_X10_needOf (v_nums v) (nI P) (nI d) (nI (cntB (fun b => !decide (v_backB v b = 0)) 6)) = y at hk
  have h0 : ¬ y < 0 := by
    rw [Int32.lt_iff_toInt_lt, hk, Int32.toInt_zero]
    omega
  obtain ⟨t, ht, rfl⟩ := nI_of h0
  rw [nI_toInt ht] at hk
  have hc : cntB (fun p => !decide (v_seaO v p = 0)) 20 ≤ P := by
    rw [cnt_P hR (fun i h1 h2 => by rw [(ra_no hR h1 h2).2.1]; rfl)]
    exact cntB_le _ _
  rw [nI_sub hc, Int32.le_iff_toInt_le, sub_toInt (by omega) (by omega), show ((-100 : Int32)).toInt = -100 by decide]
  omega
theorem prS_s (hR : RA N P B Q v) (hN : N ≤ 600) (d : Nat) : mx (prS v d).1 (sur v d) = (prS v (d + 1)).1 ∧ (if sur v d ≤ (prS v d).1 then (prS v d).2 else nI d) = (prS v (d + 1)).2 := by
  have hmx : ∀ a b : Int32, mx a b = if b ≤ a then a else b := fun a b => by
    unfold mx
    by_cases q : a < b
    · rw [if_pos q, if_neg (fun z => absurd q (Int32.not_lt.mpr z))]
    · rw [if_neg q, if_pos (Int32.not_lt.mp q)]
  rw [hmx]
  cases d with
  | zero =>
    have h := sur_0_big hR hN
    rw [show prS v 0 = (-100, 0) from rfl, if_neg h, if_neg h, show prS v (0 + 1) = bst v 0 from rfl, bst_z]
    exact ⟨rfl, rfl⟩
  | succ n =>
    rw [show prS v (n + 1) = bst v n from rfl, show prS v (n + 1 + 1) = bst v (n + 1) from rfl, bst_s]
    by_cases q : sur v (n + 1) ≤ (bst v n).1
    · rw [if_pos q, if_pos q, if_pos q]
      exact ⟨rfl, rfl⟩
    · rw [if_neg q, if_neg q, if_neg q]
      exact ⟨rfl, rfl⟩
theorem best_is (v : VT) {d : Nat} (h1 : 1 ≤ d) (h2 : d ≤ 99) : a_bestDay v (nI d) = (prS v (d + 1)).2 := by
  unfold a_bestDay f_X11_bestDay f_X10_bestDayUpTo
  rw [days_ok h1 h2, cond_true, nI_clamp (by omega), Nat.min_eq_left h2]
  rfl
theorem needIn_d (v : VT) {d : Nat} (h2 : d ≤ 99) : a_needIn v (nI d) = f_X10_needBehind (v_nums v) (v_nP v) (v_day v) (v_backB v) (nI d) := by
  unfold a_needIn f_X11_needIn
  rw [if_neg (nI_pos (by omega)), if_pos (show nI d ≤ (999 : Int32) from nI_le (b := 999) (by omega) (by decide))]
/-- observers speak of the state and the setup alone -/
theorem obs_same {v u : VT} (h1 : u.1 = v.1) (h2 : u.2.1 = v.2.1) : (∀ x, a_value u x = a_value v x) ∧ (∀ x, a_needIn u x = a_needIn v x) ∧ sur u = sur v ∧ (∀ x, a_bestDay u x = a_bestDay v x) ∧ (∀ P, EX P u = EX P v) ∧ a_truly u = a_truly v ∧ (∀ x, a_number u x = a_number v x) := by
  obtain ⟨t, s, r⟩ := v
  obtain ⟨t', s', r'⟩ := u
  cases h1
  cases h2
  exact ⟨fun _ => rfl, fun _ => rfl, rfl, fun _ => rfl, fun _ => rfl, rfl, fun _ => rfl⟩
theorem pass_same {v u : VT} (h1 : u.1 = v.1) (h2 : u.2.1 = v.2.1) {d : Nat} (hd1 : 1 ≤ d) (hd2 : d ≤ 99) : (n_pass u (nI d)).1 = (n_pass v (nI d)).1 := by
  rw [pass_new u hd1 hd2, pass_new v hd1 hd2]
  obtain ⟨t, s, r⟩ := v
  obtain ⟨t', s', r'⟩ := u
  cases h1
  cases h2
  rfl
end FO2
