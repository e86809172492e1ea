/-! WHAT STANDS: sticks, boats, baskets, NEED, results -/
theorem mxs_toInt {X y m : Nat} (hX : X < 2 ^ 30) (hy : y < 2 ^ 30) (hm : m < 2 ^ 30) : (if nI X - nI y < nI m then nI m else nI X - nI y).toInt = max ((X : Int) - y) m := by
  have e := sub_toInt hX hy
  by_cases q : nI X - nI y < nI m
  · rw [if_pos q, nI_toInt (by omega)]
    rw [Int32.lt_iff_toInt_lt, e, nI_toInt (by omega)] at q
    omega
  · rw [if_neg q, e]
    rw [Int32.lt_iff_toInt_lt, e, nI_toInt (by omega)] at q
    omega
theorem mx_sw (a b : Int32) : mx a b = if b < a then a else b := by
  unfold mx
  by_cases q : a < b
  · rw [if_pos q, if_neg (fun z => Int32.lt_irrefl (Int32.lt_of_lt_of_le q (Int32.le_of_lt z)))]
  · rw [if_neg q]
    by_cases q2 : b < a
    · rw [if_pos q2]
    · rw [if_neg q2]
      exact Int32.le_antisymm (Int32.not_lt.mp q2) (Int32.not_lt.mp q)
section STF
variable {N P B Q : Nat} {v : VT}
theorem need_cl (hR : RA N P B Q v) {d : Nat} (hd : d < 2 ^ 31) : ∃ s X l m : Nat, s < 4 ∧ f_X10_seasonOn (v_nums v) (nI d) = nI s ∧ (v_nums v (1 + s) * nI P + 99) / 100 = nI X ∧ X ≤ 20 ∧ v_nums v 5 = nI l ∧ l ≤ 9 ∧ v_nums v 6 = nI m ∧ 1 ≤ m ∧ m ≤ 20 ∧ ∀ k, f_X10_needOf (v_nums v) (v_nP v) (nI d) k = if nI X - nI l * k < nI m then nI m else nI X - nI l * k := by
  obtain ⟨hP1, hP2, hP3⟩ := ra_nP hR
  obtain ⟨-, n1, n5, ⟨n6, n60⟩, -⟩ := ra_nu hR
  obtain ⟨mTaped, mErr, mPpl, mBts, mUs, mTape, mNum, mNam, mFst, mBnm, mW, mUn, mSl, mKp, hR⟩ := hR
  obtain ⟨lo, hl, h1, h2⟩ := su_long hR.1
  have hs := x_season hR.1 hd hl h1 h2
  have hs4 : d / lo % 4 < 4 := Nat.mod_lt _ (by decide)
  generalize d / lo % 4 = s at hs hs4
  obtain ⟨e1, l1⟩ := vin_nI (n1 s hs4)
  obtain ⟨e5, l5⟩ := vin_nI n5
  obtain ⟨e6, l6⟩ := vin_nI n6
  generalize (v_nums v (1 + s)).toNatClampNeg = sh at e1 l1
  generalize (v_nums v 5).toNatClampNeg = l at e5 l5
  generalize (v_nums v 6).toNatClampNeg = m at e6 l6
  have hm1 : 1 ≤ m := by
    rcases Nat.eq_zero_or_pos m with z | z
    · subst z
      exact absurd e6 n60
    · exact z
  have hX : (v_nums v (1 + s) * nI P + 99) / 100 = nI ((sh * P + 99) / 100) := by
    have hmul : sh * P ≤ 100 * 20 := Nat.mul_le_mul (by omega) hP3
    rw [e1, pk_mul, show (99 : Int32) = nI 99 from rfl, nI_add, show (100 : Int32) = nI 100 from rfl]
    exact pk_div (by omega) (by decide) (by decide)
  have hX20 : (sh * P + 99) / 100 ≤ 20 := by
    have hmul : sh * P ≤ 100 * 20 := Nat.mul_le_mul (by omega) hP3
    omega
  refine ⟨s, (sh * P + 99) / 100, l, m, hs4, hs, hX, hX20, e5, by omega, e6, hm1, by omega, fun k => ?_⟩
  unfold f_X10_needOf
  have g1 : f_X7_numberOf (v_nums v) (1 + f_X10_seasonOn (v_nums v) (nI d)) = v_nums v (1 + s) := by
    rw [hs, show (1 : Int32) = nI 1 from rfl, nI_add]
    exact number_nI (by omega)
  have g5 : f_X7_numberOf (v_nums v) 5 = nI l := (number_nI (i := 5) (by decide)).trans e5
  have g6 : f_X7_numberOf (v_nums v) 6 = nI m := (number_nI (i := 6) (by decide)).trans e6
  have g0 : f_X7_people (v_nP v) = nI P := hP1
  rw [g1, g5, g6, g0, hX]
/-- NEED falls with the boats that are out, and never under LEAST -/
theorem need_int (hR : RA N P B Q v) {d : Nat} (hd : d < 2 ^ 31) : ∃ X l m : Nat, X ≤ 20 ∧ l ≤ 9 ∧ 1 ≤ m ∧ m ≤ 20 ∧ ∀ k, k ≤ 6 → (f_X10_needOf (v_nums v) (v_nP v) (nI d) (nI k)).toInt = max ((X : Int) - (l * k : Nat)) m := by
  obtain ⟨s, X, l, m, -, -, -, h1, -, h2, -, h3, h4, h5⟩ := need_cl hR hd
  refine ⟨X, l, m, h1, h2, h3, h4, fun k hk => ?_⟩
  have : l * k ≤ 9 * 6 := Nat.mul_le_mul h2 hk
  rw [h5, pk_mul]
  exact mxs_toInt (by omega) (by omega) (by omega)
theorem out_le (backB : Nat → Int32) : cntB (fun b => !decide (backB b = 0)) 6 ≤ 6 := cntB_le _ _
theorem outOn_now (hR : RA N P B Q v) : f_X2_boatsOutOn (v_backB v) (v_day v) = f_X2_boatsOut (v_backB v) := by
  rw [outOn_n, out_n]
  refine congrArg nI (cntB_cong (fun b hb => ?_))
  rcases ra_bo6 hR hb with z | ⟨k, e, hk, hlt⟩
  · rw [z]
    rfl
  · rw [decide_eq_false (fun z => absurd hlt (Int32.not_lt.mpr z)), Bool.not_false, Bool.and_true]
theorem needIn_0 (hR : RA N P B Q v) : a_needIn v 0 = f_X10_needOf (v_nums v) (v_nP v) (v_day v) (f_X2_boatsOut (v_backB v)) := by
  unfold a_needIn f_X11_needIn f_X10_needBehind
  rw [if_neg (by decide), if_pos (by decide), Int32.add_zero, outOn_now hR]
theorem cnt_P (hR : RA N P B Q v) {p : Nat → Bool} (h : ∀ i, P ≤ i → i < 20 → p i = false) : cntB p 20 = cntB p P := cntB_ext p (ra_nP hR).2.2 h
theorem cnt_B (hR : RA N P B Q v) {p : Nat → Bool} (h : ∀ i, B ≤ i → i < 6 → p i = false) : cntB p 6 = cntB p B := cntB_ext p (ra_nB hR).2 h
theorem pf_ok (hR : RA N P B Q v) (hX : EX P v) {p : Nat} (hp : p < P) : PF v (nI p) := by
  have h20 := (ra_nP hR).2.2
  have hB6 := (ra_nB hR).2
  obtain ⟨h1, h2, h3, h4, h5, h6, h7, h8, h9, h10, h11, h12, h13⟩ := ra_pe hR hp
  obtain ⟨x1, x2, x3⟩ := hX.1 p hp
  have hcar : ∀ {y : Int32}, vp_in y P → ¬ y < 0 := fun h => vin_nn h
  have hr0 : ¬ v_rsn v p = 0 → ¬ v_rsn v p ≤ 0 := fun q z => q (Int32.le_antisymm z (Int32.not_lt.mp (vin_nn h11)))
  have hown : ∀ {x : Nat}, x < 4 → ((a_owners v (nI x) >>> (nI p &&& 31)) &&& 1) = if (decide (v_plc v p = 2) && decide (v_bsk v p = nI x)) = true then 1 else 0 := fun hx => by
    rw [ow_n v hx, bit_nI (Nat.lt_trans (mskB_lt _ 20) (by decide)) (by omega), mskB_bit20 _ (by omega)]
  refine ⟨?_, ?_, ?_, ?_, ?_⟩
  · rw [sk_0 hR hp, sk_1 hR hp, sk_2 hR hp, sk_3 hR hp, sk_5 hR hp]
    obtain ⟨e5, l5⟩ := vin_nI h5
    have c4 : v_plc v p = 0 ∨ v_plc v p = 1 ∨ v_plc v p = 2 ∨ v_plc v p = 3 := by
      rw [e5]
      have : (v_plc v p).toNatClampNeg = 0 ∨ (v_plc v p).toNatClampNeg = 1 ∨ (v_plc v p).toNatClampNeg = 2 ∨ (v_plc v p).toNatClampNeg = 3 := by omega
      rcases this with e | e | e | e <;> rw [e]
      · exact Or.inl rfl
      · exact Or.inr (Or.inl rfl)
      · exact Or.inr (Or.inr (Or.inl rfl))
      · exact Or.inr (Or.inr (Or.inr rfl))
    rcases c4 with c | c | c | c
    · have k := h12 (Or.inl c)
      exact Or.inl ⟨c, k.1, h8 c, (x1 (h8 c)).1, k.2.2⟩
    · have k := h12 (Or.inr c)
      refine Or.inr (Or.inl ⟨c, k.1, hcar (h9 c), ?_⟩)
      obtain ⟨e, hlt⟩ := vin_nI (h9 c)
      have e2 : a_carries v (v_car v p) = a_carries v (nI (v_car v p).toNatClampNeg) := congrArg (a_carries v) e
      rw [e2, ca_n hR hlt, bit_nI (Nat.lt_trans (mskB_lt _ 20) (by decide)) (by omega), mskB_bit20 _ (by omega), if_pos]
      rw [c, ← e]
      simp
    · obtain ⟨e, hlt⟩ := vin_nI (h13 (Or.inl c)).1
      have hb : ¬ v_bsk v p = -2 := by rw [e]; exact ne_m2 (by omega)
      have ho : ((a_owners v (v_bsk v p) >>> (nI p &&& 31)) &&& 1) = 1 := by
        have e2 : a_owners v (v_bsk v p) = a_owners v (nI (v_bsk v p).toNatClampNeg) := congrArg (a_owners v) e
        rw [e2, hown hlt, if_pos]
        rw [c, ← e]
        simp
      rcases h6 with z | z
      · exact Or.inr (Or.inr (Or.inl ⟨c, hb, ho, z, (x1 z).2⟩))
      · by_cases q : v_rsn v p = 0
        · exact Or.inr (Or.inr (Or.inr (Or.inl ⟨c, hb, ho, hcar z, q⟩)))
        · exact Or.inr (Or.inr (Or.inr (Or.inr (Or.inl ⟨c, hb, ho, hcar z, hr0 q⟩))))
    · obtain ⟨e, hlt⟩ := vin_nI (h13 (Or.inr c)).1
      have hb : ¬ v_bsk v p = -2 := by rw [e]; exact ne_m2 (by omega)
      have ho : ((a_owners v (v_bsk v p) >>> (nI p &&& 31)) &&& 1) = 0 := by
        have e2 : a_owners v (v_bsk v p) = a_owners v (nI (v_bsk v p).toNatClampNeg) := congrArg (a_owners v) e
        rw [e2, hown hlt, if_neg]
        rw [c]
        simp
      have hr := x2 c
      exact Or.inr (Or.inr (Or.inr (Or.inr (Or.inr ⟨c, hb, ho, hcar (h6.resolve_left (fun z => hr (x1 z).2)), hr0 hr⟩))))
  · rw [sk_1 hR hp]
    exact h7
  · rw [ca_n hR hp, pe_4 hR hp, bitc_msk _ (by decide)]
  · rw [pe_1 hR hp, pe_2 hR hp, pe_0 hR hp, av_0]
    rcases h2 with z | ⟨z, hb, hz⟩
    · rw [if_pos z, if_pos z]
      exact Or.inl ⟨rfl, rfl⟩
    · rw [if_neg z, if_neg z]
      obtain ⟨e, hlt⟩ := vin_nI hb
      generalize (v_boatO v p).toNatClampNeg = b at e hlt hz
      rw [e, bo_0 hR hlt, bo_1 hR hlt, if_neg hz, if_neg hz, x_backB (by omega)]
      exact Or.inr ⟨by decide, nI_pos (by omega), rfl, rfl⟩
  · rw [pe_3 hR hp]
    obtain ⟨e, hlt⟩ := vin_nI h3
    rw [e]
    exact nI_le (b := 3) (by omega) (by decide)
theorem bf_ok (hR : RA N P B Q v) (hN : N ≤ 600) {b : Nat} (hb : b < B) : BF v (nI b) := by
  have hB6 := (ra_nB hR).2
  have h20 := (ra_nP hR).2.2
  obtain ⟨d, ed, hd⟩ := (ra_sc hR).1
  refine ⟨?_, ?_⟩
  · rw [bo_0 hR hb, bo_1 hR hb, av_0, bo_2 hR hb]
    by_cases z : v_backB v b = 0
    · rw [if_pos z, if_pos z]
      refine Or.inr ⟨by decide, Int32.le_refl _, ?_, ?_⟩
      · rw [aboard_n, cntB_no (fun p hp => ?_)]
        · rfl
        · by_cases q : v_boatO v p = nI b
          · have hs : v_seaO v p = 0 := by
              rcases Nat.lt_or_ge p P with h | h
              · rcases (ra_pe hR h).2.1 with w | ⟨-, -, w⟩
                · exact w
                · rw [q, nI_clamp (by omega)] at w
                  exact absurd z w
              · exact (ra_no hR h hp).2.1
            rw [hs]
            simp
          · rw [decide_eq_false q]
            rfl
      · unfold a_needIfHome f_X11_needIfHome
        rw [ra_isB hR hb, cond_true, x_out (by omega), z]
        rfl
    · rw [if_neg z, if_neg z]
      obtain ⟨k, e, hk, hlt⟩ := (ra_bo hR hb).resolve_left z
      refine Or.inl ⟨rfl, fun w => absurd hlt (Int32.not_lt.mpr w), ?_⟩
      rw [needIn_0 hR]
      have e1 : a_needIfHome v (nI b) = f_X10_needOf (v_nums v) (v_nP v) (v_day v) (f_X2_boatsOut (v_backB v) - 1) := by
        unfold a_needIfHome f_X11_needIfHome
        rw [ra_isB hR hb, cond_true, x_out (by omega), beq_false_of_ne z]
        rfl
      have hpos : 0 < cntB (fun b => !decide (v_backB v b = 0)) 6 := cntB_one (k := b) (by rw [decide_eq_false z]; rfl) (by omega)
      have hle := out_le (v_backB v)
      rw [e1, out_n, show nI (cntB (fun b => !decide (v_backB v b = 0)) 6) - 1 = nI (cntB (fun b => !decide (v_backB v b = 0)) 6 - 1) from nI_sub (b := 1) (by omega), ed]
      obtain ⟨X, l, m, -, -, -, -, hn⟩ := need_int hR (d := d) (by omega)
      generalize cntB (fun b => !decide (v_backB v b = 0)) 6 = c at hpos hle
      intro w
      rw [Int32.lt_iff_toInt_lt, hn c hle, hn (c - 1) (by omega)] at w
      have : l * (c - 1) ≤ l * c := Nat.mul_le_mul_left l (by omega)
      omega
  · rw [bo_3 hR hb, bo_2 hR hb, belong_n, aboard_n]
    intro w
    have h1 : cntB (fun p => decide (v_boatO v p = nI b) && !decide (v_seaO v p = 0)) 20 ≤ cntB (fun p => decide (v_boatO v p = nI b)) 20 := cntB_mono (fun i hi z => by
      rw [Bool.and_eq_true] at z
      exact z.1)
    have h2 := cntB_le (fun p => decide (v_boatO v p = nI b)) 20
    have := (nI_ltI (by omega) (by omega)).mp w
    omega
end STF
