theorem iter_cong {σ : Type} {f g : Nat → σ → σ} {a : σ} {N : Nat} (h : ∀ n s, n < N → f n s = g n s) : ∀ n, n ≤ N → iter_ f a n = iter_ g a n
  | 0, _ => by rw [iter_z, iter_z]
  | n + 1, hn => by rw [iter_s, iter_s, iter_cong h n (by omega), h n _ (by omega)]
theorem cntB_mono {p q : Nat → Bool} : ∀ {n : Nat}, (∀ i, i < n → p i = true → q i = true) → cntB p n ≤ cntB q n
  | 0, _ => Nat.le_refl _
  | n + 1, h => by
    have ih := cntB_mono (n := n) (fun i hi => h i (by omega))
    have h1 := h n (by omega)
    rw [cntB, cntB]
    cases e : p n
    · show _ + 0 ≤ _
      omega
    · rw [h1 e]
      show _ + 1 ≤ _ + 1
      omega
theorem RES_none {c : Nat → Nat} {need : Int32} : RES c need = -2 ↔ (nI (smN c 4) < need ∨ smN c 4 = 0) := by
  unfold RES
  by_cases q : nI (smN c 4) < need
  · rw [if_pos q]
    exact ⟨fun _ => Or.inl q, fun _ => rfl⟩
  rw [if_neg q]
  by_cases q0 : smN c 4 = 0
  · rw [if_pos q0]
    exact ⟨fun _ => Or.inr q0, fun _ => rfl⟩
  rw [if_neg q0]
  obtain ⟨k, k1, k2, k3⟩ := res_some q0
  have hy := wh_yes 19 (fun o => decide (c o < 4 ∧ cnt c (c o) = mxN c 4)) ⟨k, k1, decide_eq_true ⟨k2, k3⟩⟩
  generalize wh_ (fun o => decide (c o < 4 ∧ cnt c (c o) = mxN c 4)) 19 = e at hy ⊢
  have hy2 := (of_decide_eq_true hy).1
  rw [bk_in hy2]
  refine ⟨fun z => absurd z ?_, fun z => ?_⟩
  · intro z2
    have := nI_pos (n := c e) (by omega)
    rw [z2] at this
    exact this (by decide)
  · rcases z with z | z
    · exact absurd z q
    · exact absurd z q0
theorem RES_drop {c c2 : Nat → Nat} {need : Int32} (h : ∀ o, o < 20 → c2 o < 4 → c2 o = c o) (hn : RES c need = -2) : RES c2 need = -2 := by
  have hc : ∀ b, b < 4 → cnt c2 b ≤ cnt c b := fun b hb => cntB_mono (fun o ho q => by
    have := of_decide_eq_true q
    rw [← h o ho (by omega)]
    exact q)
  have hs : smN c2 4 ≤ smN c 4 := by
    have h0 := hc 0 (by decide)
    have h1 := hc 1 (by decide)
    have h2 := hc 2 (by decide)
    have h3 := hc 3 (by decide)
    show 0 + cnt c2 0 + cnt c2 1 + cnt c2 2 + cnt c2 3 ≤ 0 + cnt c 0 + cnt c 1 + cnt c 2 + cnt c 3
    omega
  have hl := smN_le c 4
  rcases RES_none.mp hn with q | q
  · refine RES_none.mpr (Or.inl ?_)
    have := nI_le hs (by omega)
    rw [Int32.lt_iff_toInt_lt] at q ⊢
    rw [Int32.le_iff_toInt_le] at this
    omega
  · exact RES_none.mpr (Or.inr (by omega))
def nihF (b o : Bool) (f : Int32 → Int32) (k : Int32) : Int32 := bif b then (bif o then f (k - 1) else (-4)) else (-1)
section DE
variable {N P B Q : Nat} {day votes isOpen baskets lays recs fneed clos pastN logN : Int32} {boatO seaO faultO daysO backB sailB plc car bnd bsk dyL rsn pastF logF mW : Nat → Int32}
variable {nums bNames pNames fBoats : Nat → Int32} {nB nP mPpl mBts : Int32} {mNum mNam mFst mBnm : Nat → Int32}
theorem bit_all (h : RSt N P B Q day votes isOpen baskets lays recs fneed clos boatO seaO faultO daysO backB sailB plc car bnd bsk dyL rsn pastF pastN logF logN mW) (hP : P ≤ 20) {p : Nat} (hp : p < P) : ((((f_X12_allLaid (nI P) mW) >>> ((nI p) &&& 31)) &&& 1) = 1) ↔ plc p = 2 := by
  rw [m_allLaid mW hP, bit_nI (Nat.lt_of_lt_of_le (mskB_lt _ P) (Nat.pow_le_pow_right (by decide) (by omega))) (by omega), mskB_bit, decide_eq_true hp, rs_plc h hp, rs_bsk h hp]
  by_cases q : plc p = 2
  · have := in4 (rs_lain h (show p < 20 by omega) q).2.1
    rw [decide_eq_true q, this]
    exact ⟨fun _ => q, fun _ => rfl⟩
  · rw [decide_eq_false q]
    refine ⟨fun z => absurd z ?_, fun z => absurd z q⟩
    rw [Bool.false_and, Bool.and_false, if_neg (by decide)]
    decide
theorem eq_decisive (h : RSt N P B Q day votes isOpen baskets lays recs fneed clos boatO seaO faultO daysO backB sailB plc car bnd bsk dyL rsn pastF pastN logF logN mW) (hs : RSu P B Q nums bNames pNames fBoats nB nP mPpl mBts mNum mNam mFst mBnm) (hN : N ≤ 600) (blB blC : Nat → Int32) : (f_X11_decisive nums nP day votes isOpen fneed clos backB plc bsk blB blC).1 = f_X12_decisive mPpl mBts mNum mW := by
  have hP := su_P hs
  have hst := eq_stateOf h hs hN
  have hst0 : f_X12_stateOf mNum mW = 0 ↔ votes = 0 := by
    unfold f_X12_stateOf
    rw [rs_votes h]
    by_cases q : votes = 0
    · rw [if_pos q]
      exact ⟨fun _ => q, fun _ => rfl⟩
    · rw [if_neg q]
      refine ⟨fun z => absurd z ?_, fun z => absurd z q⟩
      cases f_X12_isOpen mW
      · cases f_X12_isInTime mNum mW
        · exact (by decide : ¬ (3 : Int32) = 0)
        · exact (by decide : ¬ (2 : Int32) = 0)
      · exact (by decide : ¬ (1 : Int32) = 0)
  unfold f_X11_decisive f_X12_decisive
  rw [hst, rs_votes h]
  by_cases q : votes = 0
  · rw [if_pos q, if_pos (hst0.mpr q)]
  rw [if_neg q, if_neg (fun z => q (hst0.mp z))]
  show (f_X10_decidingSticks nums nP day votes isOpen fneed backB plc bsk blB blC).1 = _
  have hR := eq_resNow h hs hN blB blC
  have hR2 : f_X12_resultNow mPpl mBts mNum mW = RES (cS plc bsk (fun _ => true)) (f_X12_needNow mPpl mBts mNum mW) := by
    unfold f_X12_resultNow
    rw [hs.2.1]
    exact m_resS h hP (fun _ => true) (msk_no plc) _
  have hdrop : ∀ o, RES (cS plc bsk (fun _ => true)) (f_X12_needNow mPpl mBts mNum mW) = -2 → RES (cS plc bsk (fun j => !decide (j = o))) (f_X12_needNow mPpl mBts mNum mW) = -2 := fun o hn => RES_drop (fun j hj hc => by
    show (if _ then _ else _) = (if _ then _ else _)
    unfold cS at hc
    by_cases z : plc j = 2 ∧ (!decide (j = o)) = true
    · rw [if_pos z, if_pos ⟨z.1, rfl⟩]
    · rw [if_neg z] at hc
      exact absurd hc (by decide)) hn
  have hm : L_X12_decisive_27 mPpl mBts mNum mW mPpl.toNatClampNeg = nI (cntB (fun o => decide (plc o = 2) && !decide (RES (cS plc bsk (fun j => !decide (j = o))) (f_X12_needNow mPpl mBts mNum mW) = f_X12_resultNow mPpl mBts mNum mW)) P) := by
    rw [show mPpl.toNatClampNeg = P by rw [hs.2.1, nI_clamp (by omega)]]
    refine iter_cnt (N := P) (fun n s hn => ?_) P (Nat.le_refl _)
    have hb := bit_all h hP hn
    rw [← hs.2.1] at hb
    by_cases z : plc n = 2
    · rw [if_pos (hb.mpr z), decide_eq_true z]
      have e1 : f_X12_resultOf mPpl mW (f_X12_needNow mPpl mBts mNum mW) ((1 : Int32) <<< ((nI n) &&& 31)) 0 (-2) = RES (cS plc bsk (fun j => !decide (j = n))) (f_X12_needNow mPpl mBts mNum mW) := by
        have e2 := m_resS h hP (fun j => !decide (j = n)) (wo := (1 : Int32) <<< ((nI n) &&& 31)) (by
          rw [one_shl n (by omega), ← msk_one (show n < 20 by omega)]
          refine congrArg nI (mskB_cong (fun o ho => ?_))
          by_cases y : o = n
          · rw [y, decide_eq_true rfl, decide_eq_true z]
            rfl
          · rw [decide_eq_false y]
            exact (Bool.and_false _).symm) (f_X12_needNow mPpl mBts mNum mW)
        rw [← hs.2.1] at e2
        exact e2
      rw [e1, Int32.add_zero]
      by_cases y : RES (cS plc bsk (fun j => !decide (j = n))) (f_X12_needNow mPpl mBts mNum mW) = f_X12_resultNow mPpl mBts mNum mW
      · rw [if_pos y, decide_eq_true y]
        rfl
      · rw [if_neg y, decide_eq_false y]
        rfl
    · rw [if_neg (fun y => z (hb.mp y)), decide_eq_false z, Int32.add_zero]
      rfl
  rw [hm]
  unfold f_X10_decidingSticks
  rw [hR]
  by_cases qn : f_X12_resultNow mPpl mBts mNum mW = -2
  · rw [if_pos qn]
    have hz : cntB (fun o => decide (plc o = 2) && !decide (RES (cS plc bsk (fun j => !decide (j = o))) (f_X12_needNow mPpl mBts mNum mW) = f_X12_resultNow mPpl mBts mNum mW)) P = cntB (fun _ => false) P := cntB_cong (fun o ho => by
      rw [qn, decide_eq_true (hdrop o (hR2.symm.trans qn))]
      exact Bool.and_false _)
    have h0 : ∀ n, cntB (fun _ => false) n = 0 := fun n => by
      induction n with
      | zero => rfl
      | succ n ih => rw [cntB, ih]; rfl
    rw [hz, h0]
    rfl
  · rw [if_neg qn]
    have hI : ∀ n, n ≤ 20 → (L_X10_decidingSticks_17 nums nP day votes isOpen fneed backB plc bsk blB blC n).1 = nI (cntB (fun o => decide (plc o = 2) && !decide (RES (cS plc bsk (fun j => !decide (j = o))) (f_X12_needNow mPpl mBts mNum mW) = f_X12_resultNow mPpl mBts mNum mW)) n) ∧ ∀ o, o < 20 → (L_X10_decidingSticks_17 nums nP day votes isOpen fneed backB plc bsk blB blC n).2.1 o = if plc o = 2 then bsk o else -2 := by
      refine iter_inv (fun n (s : Int32 × (Nat → Int32) × (Nat → Int32)) => s.1 = nI (cntB (fun o => decide (plc o = 2) && !decide (RES (cS plc bsk (fun j => !decide (j = o))) (f_X12_needNow mPpl mBts mNum mW) = f_X12_resultNow mPpl mBts mNum mW)) n) ∧ ∀ o, o < 20 → s.2.1 o = if plc o = 2 then bsk o else -2) ⟨rfl, fun o ho => x_take ho⟩ (fun n s hn hi => ?_)
      obtain ⟨i1, i2⟩ := hi
      rw [x_plc hn, x_bsk hn, hR]
      by_cases z : plc n = 2
      · rw [if_pos z]
        have el : f_X0_leaveOut s.2.1 (nI n) = upd s.2.1 n (-2) := by
          unfold f_X0_leaveOut
          exact setCell_nI (by decide) hn
        have er : (f_X0_result (f_X0_leaveOut s.2.1 (nI n)) s.2.2 (f_X10_needOfVote nums nP day votes isOpen fneed backB)).1 = RES (cS plc bsk (fun j => !decide (j = n))) (f_X12_needNow mPpl mBts mNum mW) := by
          rw [eq_needNow h hs hN, el]
          refine x_resS h (fun j => !decide (j = n)) (fun o ho => ?_) _
          by_cases y : o = n
          · subst y
            rw [upd_eq, if_neg (fun w => by simp at w)]
          · rw [upd_ne y, i2 o ho]
            by_cases w : plc o = 2
            · rw [if_pos w, if_pos ⟨w, by rw [decide_eq_false y]; rfl⟩]
            · rw [if_neg w, if_neg (fun v => w v.1)]
        have ep : ∀ o, o < 20 → f_X0_put (f_X0_leaveOut s.2.1 (nI n)) (nI n) (bsk n) o = if plc o = 2 then bsk o else -2 := fun o ho => by
          rw [el]
          unfold f_X0_put
          rw [setCell_nI (by decide) hn]
          by_cases y : o = n
          · subst y
            rw [upd_eq, if_pos z]
          · rw [upd_ne y, upd_ne y, i2 o ho]
        rw [er]
        by_cases y : RES (cS plc bsk (fun j => !decide (j = n))) (f_X12_needNow mPpl mBts mNum mW) = f_X12_resultNow mPpl mBts mNum mW
        · rw [if_pos y]
          refine ⟨?_, ep⟩
          rw [cntB, decide_eq_true z, decide_eq_true y]
          exact i1
        · rw [if_neg y]
          refine ⟨?_, ep⟩
          rw [cntB, decide_eq_true z, decide_eq_false y]
          show s.1 + 1 = nI (_ + 1)
          rw [i1, nI_1]
      · rw [if_neg z]
        refine ⟨?_, i2⟩
        rw [cntB, decide_eq_false z]
        exact i1
    refine ((hI 20 (Nat.le_refl _)).1).trans (congrArg nI (cntB_ext _ hP (fun o h1 h2 => ?_)))
    rw [rs_plc_no h h1 h2]
    rfl
theorem eq_agrees (h : RSt N P B Q day votes isOpen baskets lays recs fneed clos boatO seaO faultO daysO backB sailB plc car bnd bsk dyL rsn pastF pastN logF logN mW) (hs : RSu P B Q nums bNames pNames fBoats nB nP mPpl mBts mNum mNam mFst mBnm) : f_X11_agrees lays plc = f_X12_agrees mPpl mW := by
  have hP := su_P hs
  unfold f_X11_agrees f_X12_agrees f_X9_turnout f_X9_struckOnes
  rw [eq_turnout h hP, eq_struck h hP, hs.2.1, rs_votes h, h.1.2.2.2.2.1.1]
  by_cases q : votes = 0
  · rw [if_pos q, if_pos]
    have hz : ∀ v : Int32, (v = 2 ∨ v = 3) → f_X9_countAt plc v = 0 := fun v hv => by
      rw [x_countAt]
      have : cntB (fun o => decide (plc o = v)) 20 = cntB (fun _ => false) 20 := cntB_cong (fun o ho => by
        refine decide_eq_false (fun z => ?_)
        by_cases hp : o < P
        · exact ((h.2.1 o hp).2.2.2.2.2.2.2.2.2.2.2.2.2.2 (by rcases hv with w | w <;> rw [z, w] <;> simp)).2 q
        · rw [rs_plc_no h (by omega) ho] at z
          rcases hv with w | w <;> rw [w] at z <;> exact absurd z (by decide))
      rw [this]
      rfl
    rw [← eq_turnout h hP, ← eq_struck h hP, hz 2 (Or.inl rfl), hz 3 (Or.inr rfl), h.1.2.2.2.2.1.2.2 q]
    rfl
  · rw [if_neg q]
theorem eq_might (h : RSt N P B Q day votes isOpen baskets lays recs fneed clos boatO seaO faultO daysO backB sailB plc car bnd bsk dyL rsn pastF pastN logF logN mW) (hs : RSu P B Q nums bNames pNames fBoats nB nP mPpl mBts mNum mNam mFst mBnm) {p : Nat} (hp : p < P) : f_X10_mightOf nums isOpen seaO plc car (nI p) = f_X12_mightOf mPpl mNum mW (nI p) := by
  have hP := su_P hs
  have e7 : f_X7_numberOf nums 7 = mNum 7 := su_num hs (i := 7) (by decide)
  have ec := m_carried mW (nI p) hP
  have ex := x_carried plc car (nI p)
  have hbit : ∀ o, o < 20 → (mskB (fun o => decide (plc o = 1) && decide (car o = nI p)) 20).testBit o = (decide (plc o = 1) && decide (car o = nI p)) := fun o ho => mskB_bit20 _ ho
  have hc1 : L_X10_mightOf_17 seaO plc car (nI p) 20 = nI (cntB (fun o => (decide (plc o = 1) && decide (car o = nI p)) && f_X2_isAtSea seaO (nI o)) 20) := by
    refine iter_cnt (N := 20) (fun n s hn => ?_) 20 (Nat.le_refl _)
    rw [ex, bit_nI (Nat.lt_of_lt_of_le (mskB_lt _ 20) (by decide)) (by omega), hbit n hn]
    cases (decide (plc n = 1) && decide (car n = nI p))
    · exact if_pos rfl
    · exact if_neg (by decide)
  have hc2 : L_X12_mightOf_11 mPpl mW (nI p) P = nI (cntB (fun o => (decide (plc o = 1) && decide (car o = nI p)) && f_X2_isAtSea seaO (nI o)) P) := by
    refine iter_cnt (N := P) (fun n s hn => ?_) P (Nat.le_refl _)
    rw [hs.2.1, ← eq_carried h hP, ex, bit_nI (Nat.lt_of_lt_of_le (mskB_lt _ 20) (by decide)) (by omega), hbit n (by omega), ← eq_sea h hP hn, Int32.add_zero]
    cases (decide (plc n = 1) && decide (car n = nI p))
    · exact if_neg (by decide)
    · exact if_pos rfl
  have hn : L_X10_mightOf_17 seaO plc car (nI p) 20 = L_X12_mightOf_11 mPpl mW (nI p) mPpl.toNatClampNeg := by
    rw [show mPpl.toNatClampNeg = P by rw [hs.2.1, nI_clamp (by omega)], hc1, hc2, cntB_ext _ hP (fun o h1 h2 => by rw [rs_plc_no h h1 h2]; rfl)]
  unfold f_X10_mightOf f_X12_mightOf
  rw [rs_open h, hn, e7, eq_laidFor h hP hp, of_4 (by omega)]
  generalize L_X12_mightOf_11 mPpl mW (nI p) mPpl.toNatClampNeg = z
  by_cases q : mNum 7 < z
  · rw [if_pos q, if_neg (Int32.not_le.mpr q)]
    cases tb isOpen
    · exact (Int32.sub_zero _).symm
    · rfl
  · rw [if_neg q, if_pos (Int32.not_lt.mp q)]
    cases tb isOpen
    · exact (Int32.sub_zero _).symm
    · rfl
theorem eq_mightiest (h : RSt N P B Q day votes isOpen baskets lays recs fneed clos boatO seaO faultO daysO backB sailB plc car bnd bsk dyL rsn pastF pastN logF logN mW) (hs : RSu P B Q nums bNames pNames fBoats nB nP mPpl mBts mNum mNam mFst mBnm) : f_X11_mightiest nums nP isOpen seaO plc car = f_X12_mightiest mPpl mNum mW := by
  have hP := su_P hs
  unfold f_X11_mightiest f_X10_mightiestCarrier f_X12_mightiest
  have e1 : (f_X7_people nP).toNatClampNeg = P := by
    show nP.toNatClampNeg = P
    rw [hs.1, nI_clamp (by omega)]
  rw [e1, show mPpl.toNatClampNeg = P by rw [hs.2.1, nI_clamp (by omega)]]
  refine congrArg Prod.snd (iter_cong (N := P) (fun n s hn => ?_) P (Nat.le_refl _))
  rw [eq_sea h hP hn, eq_might h hs hn]
theorem need_b (h : RSt N P B Q day votes isOpen baskets lays recs fneed clos boatO seaO faultO daysO backB sailB plc car bnd bsk dyL rsn pastF pastN logF logN mW) (hs : RSu P B Q nums bNames pNames fBoats nB nP mPpl mBts mNum mNam mFst mBnm) (hN : N ≤ 600) (b : Int32) : f_X10_needOf nums nP day b = f_X12_needOn mPpl mNum day b := by
  obtain ⟨n, e, hn⟩ := rs_day_n h
  rw [e]
  exact eq_needOf hs (Nat.lt_of_le_of_lt hn (Nat.lt_of_le_of_lt (Nat.mul_le_mul_left 99 hN) (by decide))) b
theorem eq_needIfHome (h : RSt N P B Q day votes isOpen baskets lays recs fneed clos boatO seaO faultO daysO backB sailB plc car bnd bsk dyL rsn pastF pastN logF logN mW) (hs : RSu P B Q nums bNames pNames fBoats nB nP mPpl mBts mNum mNam mFst mBnm) (hN : N ≤ 600) (x : Int32) : f_X11_needIfHome nums nB nP day backB x = f_X12_needIfHome mPpl mBts mNum mW x := by
  have hb : f_X2_boatsOut backB = f_X12_outOn mBts mW day := by
    rw [eq_boatsOut h hs.2.2.2.2.2.1, ← hs.2.2.2.1]
  have e1 : f_X11_needIfHome nums nB nP day backB x = nihF (f_X11_isBoat nB x) (f_X2_isOut backB x) (f_X10_needOf nums nP day) (f_X2_boatsOut backB) := rfl
  have e2 : f_X12_needIfHome mPpl mBts mNum mW x = nihF (f_X12_isBoat mBts x) (f_X12_isOut mW x) (f_X12_needOn mPpl mNum (mW 0)) (f_X12_outOn mBts mW (mW 0)) := rfl
  have e3 : f_X10_needOf nums nP day = f_X12_needOn mPpl mNum day := funext (fun k => need_b h hs hN k)
  rw [e1, e2, rs_day h, eq_isBoat hs, hb, e3]
  cases c : f_X12_isBoat mBts x
  · rfl
  · obtain ⟨i, rfl, hi⟩ := boat_n hs c
    rw [eq_out h hs.2.2.2.2.2.1 hi]
theorem eq_season (h : RSt N P B Q day votes isOpen baskets lays recs fneed clos boatO seaO faultO daysO backB sailB plc car bnd bsk dyL rsn pastF pastN logF logN mW) (hs : RSu P B Q nums bNames pNames fBoats nB nP mPpl mBts mNum mNam mFst mBnm) (hN : N ≤ 600) : f_X10_seasonOn nums day = day / mNum 0 - day / mNum 0 / 4 * 4 := by
  obtain ⟨l, hl, h1, h2⟩ := su_long hs
  obtain ⟨n, e, hn⟩ := rs_day_n h
  have hn2 : n < 2 ^ 31 := Nat.lt_of_le_of_lt hn (Nat.lt_of_le_of_lt (Nat.mul_le_mul_left 99 hN) (by decide))
  rw [e, x_season hs hn2 hl h1 h2, hl, pk_div hn2 (by omega) (by omega), show (4 : Int32) = nI 4 from rfl, pk_rem (Nat.lt_of_le_of_lt (Nat.div_le_self _ _) hn2) (by decide) (by decide)]
theorem eq_size (h : RSt N P B Q day votes isOpen baskets lays recs fneed clos boatO seaO faultO daysO backB sailB plc car bnd bsk dyL rsn pastF pastN logF logN mW) (hN : N ≤ 600) : f_X5_size 30 logN = mW 8 := by
  obtain ⟨a, e1, e2, e3, -⟩ := h.2.2.2.2.2.2
  unfold f_X5_size
  rw [e1, e3]
  have ha : a < 2 ^ 31 := by omega
  by_cases q : 30 < a
  · rw [if_pos ((nI_ltI (by omega) ha).mpr q), Nat.min_eq_right (by omega)]
  · rw [if_neg (fun z => q ((nI_ltI (by omega) ha).mp z)), Nat.min_eq_left (by omega)]
theorem eq_value (h : RSt N P B Q day votes isOpen baskets lays recs fneed clos boatO seaO faultO daysO backB sailB plc car bnd bsk dyL rsn pastF pastN logF logN mW) (hs : RSu P B Q nums bNames pNames fBoats nB nP mPpl mBts mNum mNam mFst mBnm) (hN : N ≤ 600) (blB blC : Nat → Int32) (x : Int32) : (f_X11_value nums nB nP day votes isOpen baskets recs fneed clos seaO backB plc bsk rsn logN blB blC x).1 = f_X12_value mPpl mBts mNum mW x := by
  have hP := su_P hs
  have hB := hs.2.2.2.2.2.1
  have hnP : nP = mPpl := hs.1.trans hs.2.1.symm
  have hnB : nB = mBts := hs.2.2.1.trans hs.2.2.2.1.symm
  have v1 := eq_season h hs hN
  have v4 : f_X2_boatsOut backB = f_X12_outOn mBts mW day := by rw [eq_boatsOut h hB, ← hs.2.2.2.1]
  have v5 : f_X2_peopleAtSea seaO = f_X12_atSeaMany mPpl mW := by rw [eq_atSea h hP, ← hs.2.1]
  have v6 := eq_needNow h hs hN
  have v7 : f_X9_turnout plc = f_X12_turnout mPpl mW := by
    unfold f_X9_turnout
    rw [eq_turnout h hP, ← hs.2.1]
  have v8 := eq_stateOf h hs hN
  have v11 : f_X9_struckOnes plc = f_X12_struckMany mPpl mW := by
    unfold f_X9_struckOnes
    rw [eq_struck h hP, ← hs.2.1]
  have v16 : f_J6_bitCount_0f7a4 (f_X9_wrongMask plc rsn) = f_X12_ones (f_X12_wrongSet mPpl mW) := by
    rw [hs.2.1, ← eq_wrong h hP, x_wrong, bitc_msk _ (by decide), ones_msk _ (by decide)]
  have v10 : (bif tb isOpen then ((-2 : Int32), blB, blC) else ((S_X11_value_199 nums nP day votes isOpen fneed backB plc bsk blB blC).1, (S_X11_value_199 nums nP day votes isOpen fneed backB plc bsk blB blC).2.1, (S_X11_value_199 nums nP day votes isOpen fneed backB plc bsk blB blC).2.2)).1 = bif f_X12_isClosed mW then f_X12_resultNow mPpl mBts mNum mW else -2 := by
    rw [rs_closed h]
    cases q : tb isOpen
    · show (f_X10_resultNow nums nP day votes isOpen fneed backB plc bsk blB blC).1 = _
      rw [eq_resNow h hs hN]
      by_cases z : votes ≤ 0
      · rw [decide_eq_true z]
        show _ = (-2 : Int32)
        have z0 : votes = 0 := by
          have := vin_le0 h.1.2.1.2
          rw [decide_eq_true z] at this
          exact of_decide_eq_true this.symm
        unfold f_X12_resultNow
        rw [hs.2.1, m_resS h hP (fun _ => true) (msk_no plc)]
        refine RES_none.mpr (Or.inr ?_)
        have h0 : ∀ b, b < 4 → cnt (cS plc bsk (fun _ => true)) b = 0 := fun b hb => by
          rcases Nat.eq_zero_or_pos (cnt (cS plc bsk (fun _ => true)) b) with y | y
          · exact y
          · obtain ⟨k, k1, k2⟩ := cntB_some y
            have k3 := of_decide_eq_true k2
            unfold cS at k3
            by_cases w : plc k = 2
            · exact absurd z0 (rs_lain h k1 w).2.2
            · rw [if_neg (fun v => w v.1)] at k3
              omega
        show 0 + cnt _ 0 + cnt _ 1 + cnt _ 2 + cnt _ 3 = 0
        rw [h0 0 (by decide), h0 1 (by decide), h0 2 (by decide), h0 3 (by decide)]
      · rw [decide_eq_false z]
        rfl
    · show (-2 : Int32) = _
      rw [Bool.not_true, Bool.and_false]
      rfl
  unfold f_X11_value f_X12_value
  rw [← v10, ← v16, ← v11, ← v8, ← v7, ← v6, ← v5, rs_day h, ← v4, ← v1, h.1.2.2.2.1.1, h.1.2.2.2.2.2.1.1, rs_votes h, ← eq_size h hN, ← hnP, ← hnB]
  by_cases c0 : x = 0
  · rw [if_pos c0, if_pos c0]
  rw [if_neg c0, if_neg c0]
  by_cases c1 : x = 1
  · rw [if_pos c1, if_pos c1]
  rw [if_neg c1, if_neg c1]
  by_cases c2 : x = 2
  · rw [if_pos c2, if_pos c2]
  rw [if_neg c2, if_neg c2]
  by_cases c3 : x = 3
  · rw [if_pos c3, if_pos c3]
  rw [if_neg c3, if_neg c3]
  by_cases c4 : x = 4
  · rw [if_pos c4, if_pos c4]
  rw [if_neg c4, if_neg c4]
  by_cases c5 : x = 5
  · rw [if_pos c5, if_pos c5]
  rw [if_neg c5, if_neg c5]
  by_cases c6 : x = 6
  · rw [if_pos c6, if_pos c6]
  rw [if_neg c6, if_neg c6]
  by_cases c7 : x = 7
  · rw [if_pos c7, if_pos c7]
  rw [if_neg c7, if_neg c7]
  by_cases c8 : x = 8
  · rw [if_pos c8, if_pos c8]
  rw [if_neg c8, if_neg c8]
  by_cases c9 : x = 9
  · rw [if_pos c9, if_pos c9]
  rw [if_neg c9, if_neg c9]
  by_cases c10 : x = 10
  · rw [if_pos c10, if_pos c10]
  rw [if_neg c10, if_neg c10]
  by_cases c11 : x = 11
  · rw [if_pos c11, if_pos c11]
  rw [if_neg c11, if_neg c11]
  by_cases c12 : x = 12
  · rw [if_pos c12, if_pos c12]
  rw [if_neg c12, if_neg c12]
  by_cases c13 : x = 13
  · rw [if_pos c13, if_pos c13]
  rw [if_neg c13, if_neg c13]
  by_cases c14 : x = 14
  · rw [if_pos c14, if_pos c14]
  rw [if_neg c14, if_neg c14]
  by_cases c15 : x = 15
  · rw [if_pos c15, if_pos c15]
  rw [if_neg c15, if_neg c15]
  by_cases c16 : x = 16
  · rw [if_pos c16, if_pos c16]
  rw [if_neg c16, if_neg c16]
end DE
