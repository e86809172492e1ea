theorem upd_self (s : Nat → Int32) (n : Nat) : upd s n (s n) = s := by
  funext j
  unfold upd
  by_cases e : j = n
  · rw [if_pos e, e]
  · rw [if_neg e]
theorem andn_nI (p w : Nat → Bool) : nI (mskB p 20) &&& (nI (mskB w 20) ^^^ (-1)) = nI (mskB (fun o => p o && !w o) 20) := by
  apply Int32.toBitVec_inj.mp
  rw [Int32.toBitVec_and, Int32.toBitVec_xor]
  show BitVec.ofNat 32 (mskB p 20) &&& (BitVec.ofNat 32 (mskB w 20) ^^^ BitVec.allOnes 32) = BitVec.ofNat 32 (mskB (fun o => p o && !w o) 20)
  apply BitVec.eq_of_getLsbD_eq
  intro i hi
  rw [BitVec.getLsbD_and, BitVec.getLsbD_xor, BitVec.getLsbD_ofNat, BitVec.getLsbD_ofNat, BitVec.getLsbD_ofNat, BitVec.getLsbD_allOnes, mskB_bit, mskB_bit, mskB_bit, decide_eq_true hi]
  cases decide (i < 20) <;> cases p i <;> cases w i <;> rfl
theorem msk_f (n : Nat) : mskB (fun _ => false) n = 0 := by
  induction n with
  | zero => rfl
  | succ n ih => rw [mskB, ih]; rfl
theorem msk_one {p n : Nat} (h : p < n) : mskB (fun o => decide (o = p)) n = 2 ^ p := by
  apply Nat.eq_of_testBit_eq
  intro i
  rw [mskB_bit, Nat.testBit_two_pow]
  by_cases e : i = p
  · subst e
    simp [h]
  · have : ¬ p = i := fun z => e z.symm
    simp [e, this]
theorem x_take {blB plc bsk : Nat → Int32} {o : Nat} (ho : o < 20) : f_X0_takeFrom blB plc bsk o = if plc o = 2 then bsk o else -2 := by
  have e : f_X0_takeFrom blB plc bsk = fun j => if j < 20 then (if plc j = 2 then bsk j else -2) else blB j := iter_row (N := 20) (g := fun n _ => if plc n = 2 then bsk n else -2) (fun n t hn => by
    rw [nI_clamp (by omega), x_plc hn, x_bsk hn]
    by_cases q : plc n = 2
    · rw [if_pos q, if_pos q]
    · rw [if_neg q, if_neg q]) blB 20 (Nat.le_refl _)
  rw [e]
  exact if_pos ho
section RE
variable {N P B Q : Nat} {day votes isOpen baskets lays recs fneed clos pastN logN : Int32} {boatO seaO faultO daysO backB sailB plc car bnd bsk dyL rsn pastF logF mW : Nat → Int32}
variable {nums bNames pNames fBoats : Nat → Int32} {nB nP mPpl mBts : Int32} {mNum mNam mFst mBnm : Nat → Int32}
theorem rs_lain (h : RSt N P B Q day votes isOpen baskets lays recs fneed clos boatO seaO faultO daysO backB sailB plc car bnd bsk dyL rsn pastF pastN logF logN mW) {o : Nat} (ho : o < 20) (q : plc o = 2) : o < P ∧ vp_in (bsk o) 4 ∧ ¬ votes = 0 := by
  by_cases hp : o < P
  · exact ⟨hp, (h.2.1 o hp).2.2.2.2.2.2.2.2.2.2.2.2.2.2 (Or.inl q)⟩
  · rw [rs_plc_no h (by omega) ho] at q
    exact absurd q (by decide)
theorem m_res2 (h : RSt N P B Q day votes isOpen baskets lays recs fneed clos boatO seaO faultO daysO backB sailB plc car bnd bsk dyL rsn pastF pastN logF logN mW) (hP : P ≤ 20) {c : Nat → Nat} {w v : Nat → Bool} {wo more into : Int32} (hw : wo = nI (mskB w 20)) (hv : more = nI (mskB v 20))
    (hc : ∀ o, o < 20 → ∀ n, n < 4 → decide (c o = n) = ((decide (plc o = 2) && decide (bsk o = nI n)) && !w o || (decide (nI n = into) && v o)))
    (hx : ∀ o, o < 20 → c o < 4 → v o = true → into = nI (c o)) (need : Int32) : f_X12_resultOf (nI P) mW need wo more into = RES c need := by
  refine m_result (fun n hn => ?_) (fun o ho hco => ?_) need
  · have eJ : J_X12_resultOf_32 more into n = nI (mskB (fun o => decide (nI n = into) && v o) 20) := by
      unfold J_X12_resultOf_32
      by_cases q : nI n = into
      · rw [if_pos q, decide_eq_true q, hv]
        rfl
      · rw [if_neg q, decide_eq_false q]
        exact (congrArg nI (msk_f 20)).symm
    rw [← eq_setIn h hP, x_maskIn, hw, andn_nI, eJ, or_nI, mskB_or2]
    exact congrArg nI (mskB_cong (fun o ho => (hc o ho n hn).symm))
  · rw [hv, bit_nI (Nat.lt_of_lt_of_le (mskB_lt _ 20) (by decide)) (by omega), mskB_bit20 _ ho]
    cases q : v o
    · rw [if_neg (by decide)]
      show (if (0 : Int32) = 1 then into else f_X12_of mW (nI o) 8) = nI (c o)
      rw [if_neg (by decide), of_8 ho]
      have h1 := hc o ho (c o) hco
      rw [decide_eq_true rfl, q, Bool.and_false, Bool.or_false] at h1
      have h2 : decide (plc o = 2) = true ∧ decide (bsk o = nI (c o)) = true := by
        cases z1 : decide (plc o = 2)
        · rw [z1] at h1
          exact absurd h1.symm (by simp)
        · cases z2 : decide (bsk o = nI (c o))
          · rw [z1, z2] at h1
            exact absurd h1.symm (by simp)
          · exact ⟨rfl, rfl⟩
      have h3 := rs_lain h ho (of_decide_eq_true h2.1)
      rw [rs_bsk h h3.1]
      exact of_decide_eq_true h2.2
    · rw [if_pos rfl]
      exact hx o ho hco q
/-- where the sticks lie -/
theorem cS_n (h : RSt N P B Q day votes isOpen baskets lays recs fneed clos boatO seaO faultO daysO backB sailB plc car bnd bsk dyL rsn pastF pastN logF logN mW) {o : Nat} (ho : o < 20) (n : Nat) (hn : n < 4) (g : Bool) : decide ((if plc o = 2 ∧ g = true then (bsk o).toNatClampNeg else 4) = n) = (decide (plc o = 2) && decide (bsk o = nI n) && g) := by
  by_cases q : plc o = 2
  · obtain ⟨-, h1, -⟩ := rs_lain h ho q
    obtain ⟨e, h2⟩ := vin_nI h1
    cases g
    · rw [if_neg (fun z => absurd z.2 (by decide)), Bool.and_false]
      exact decide_eq_false (by omega)
    · rw [if_pos ⟨q, rfl⟩, decide_eq_true q, Bool.and_true, Bool.true_and]
      refine decide_eq_decide.mpr ⟨fun z => by rw [← z]; exact e, fun z => by rw [z, nI_clamp (by omega)]⟩
  · rw [if_neg (fun z => q z.1), decide_eq_false q]
    exact decide_eq_false (by omega)
theorem cS_bk (h : RSt N P B Q day votes isOpen baskets lays recs fneed clos boatO seaO faultO daysO backB sailB plc car bnd bsk dyL rsn pastF pastN logF logN mW) {o : Nat} (ho : o < 20) (g : Bool) : bk (if plc o = 2 ∧ g = true then (bsk o).toNatClampNeg else 4) = if plc o = 2 ∧ g = true then bsk o else -2 := by
  by_cases q : plc o = 2 ∧ g = true
  · obtain ⟨-, h1, -⟩ := rs_lain h ho q.1
    obtain ⟨e, h2⟩ := vin_nI h1
    rw [if_pos q, if_pos q, bk_in h2]
    exact e.symm
  · rw [if_neg q, if_neg q]
    rfl
def cS (plc bsk : Nat → Int32) (g : Nat → Bool) : Nat → Nat := fun o => if plc o = 2 ∧ g o = true then (bsk o).toNatClampNeg else 4
theorem m_resS (h : RSt N P B Q day votes isOpen baskets lays recs fneed clos boatO seaO faultO daysO backB sailB plc car bnd bsk dyL rsn pastF pastN logF logN mW) (hP : P ≤ 20) (g : Nat → Bool) {wo : Int32} (hw : wo = nI (mskB (fun o => decide (plc o = 2) && !g o) 20)) (need : Int32) : f_X12_resultOf (nI P) mW need wo 0 (-2) = RES (cS plc bsk g) need := by
  refine m_res2 h hP (v := fun _ => false) hw (by rw [msk_f]; rfl) (fun o ho n hn => ?_) (fun o ho hc q => absurd q (by decide)) need
  show decide ((if plc o = 2 ∧ g o = true then (bsk o).toNatClampNeg else 4) = n) = _
  rw [cS_n h ho n hn, Bool.and_false, Bool.or_false]
  cases decide (plc o = 2) <;> cases g o <;> simp
theorem x_resS (h : RSt N P B Q day votes isOpen baskets lays recs fneed clos boatO seaO faultO daysO backB sailB plc car bnd bsk dyL rsn pastF pastN logF logN mW) (g : Nat → Bool) {b blC : Nat → Int32} (hb : ∀ o, o < 20 → b o = if plc o = 2 ∧ g o = true then bsk o else -2) (need : Int32) : (f_X0_result b blC need).1 = RES (cS plc bsk g) need :=
  x_result (fun o ho => (hb o ho).trans (cS_bk h ho (g o)).symm) blC need
theorem msk_no (plc : Nat → Int32) : (0 : Int32) = nI (mskB (fun o => decide (plc o = 2) && !(fun _ => true) o) 20) := by
  rw [show (fun o : Nat => decide (plc o = 2) && !(fun _ => true) o) = fun _ => false from funext (fun o => Bool.and_false _), msk_f]
  rfl
theorem eq_resFor (h : RSt N P B Q day votes isOpen baskets lays recs fneed clos boatO seaO faultO daysO backB sailB plc car bnd bsk dyL rsn pastF pastN logF logN mW) (hP : P ≤ 20) (blB blC : Nat → Int32) (need : Int32) : (f_X10_resultFor plc bsk blB blC need).1 = f_X12_resultOf (nI P) mW need 0 0 (-2) := by
  rw [m_resS h hP (fun _ => true) (msk_no plc)]
  exact x_resS h (fun _ => true) (fun o ho => by
    rw [x_take ho]
    by_cases q : plc o = 2
    · rw [if_pos q, if_pos ⟨q, rfl⟩]
    · rw [if_neg q, if_neg (fun z => q z.1)]) need
theorem eq_resNow (h : RSt N P B Q day votes isOpen baskets lays recs fneed clos boatO seaO faultO daysO backB sailB plc car bnd bsk dyL rsn pastF pastN logF logN mW) (hs : RSu P B Q nums bNames pNames fBoats nB nP mPpl mBts mNum mNam mFst mBnm) (hN : N ≤ 600) (blB blC : Nat → Int32) : (f_X10_resultNow nums nP day votes isOpen fneed backB plc bsk blB blC).1 = f_X12_resultNow mPpl mBts mNum mW := by
  unfold f_X10_resultNow f_X12_resultNow
  rw [← eq_needNow h hs hN, hs.2.1]
  exact eq_resFor h (su_P hs) blB blC _
theorem eq_leads (h : RSt N P B Q day votes isOpen baskets lays recs fneed clos boatO seaO faultO daysO backB sailB plc car bnd bsk dyL rsn pastF pastN logF logN mW) (hs : RSu P B Q nums bNames pNames fBoats nB nP mPpl mBts mNum mNam mFst mBnm) (hN : N ≤ 600) (blB blC : Nat → Int32) : (f_X11_leads nums nP day votes isOpen fneed backB plc bsk blB blC).1 = f_X12_leads mPpl mBts mNum mW := by
  unfold f_X11_leads f_X12_leads
  rw [rs_open h, ← eq_resNow h hs hN blB blC]
  cases tb isOpen
  · rfl
  · rfl
theorem eq_truly (h : RSt N P B Q day votes isOpen baskets lays recs fneed clos boatO seaO faultO daysO backB sailB plc car bnd bsk dyL rsn pastF pastN logF logN mW) (hs : RSu P B Q nums bNames pNames fBoats nB nP mPpl mBts mNum mNam mFst mBnm) (hN : N ≤ 600) (blB blC : Nat → Int32) : (f_X11_truly nums nP day votes isOpen fneed clos backB plc bsk rsn blB blC).1 = f_X12_truly mPpl mBts mNum mW := by
  have hP := su_P hs
  have hst : f_X10_stateOfVote nums day votes isOpen clos = 0 ↔ votes = 0 := by
    unfold f_X10_stateOfVote
    by_cases q : votes = 0
    · rw [if_pos q]
      exact ⟨fun _ => q, fun _ => rfl⟩
    · rw [if_neg q]
      refine ⟨fun z => absurd z ?_, fun z => absurd z q⟩
      cases tb isOpen
      · show ¬ (if _ then _ else _) = _
        by_cases y : clos + f_X7_numberOf nums 8 < day
        · rw [if_pos y]
          decide
        · rw [if_neg y]
          decide
      · exact (by decide : ¬ (1 : Int32) = 0)
  unfold f_X11_truly f_X12_truly
  rw [rs_votes h]
  by_cases q : votes = 0
  · rw [if_pos q, if_pos (hst.mpr q)]
  · rw [if_neg q, if_neg (fun z => q (hst.mp z)), ← eq_needNow h hs hN, hs.2.1]
    rw [m_resS h hP (fun o => decide (rsn o = 0)) (by rw [← eq_wrong h hP, x_wrong])]
    refine x_resS h (fun o => decide (rsn o = 0)) (fun o ho => ?_) _
    have e : L_X10_resultOfRightOnes_16 plc bsk rsn blB 20 = fun j => if j < 20 then (fun n x => if plc n = 2 ∧ ¬ rsn n = 0 then -2 else x) j (f_X0_takeFrom blB plc bsk j) else f_X0_takeFrom blB plc bsk j :=
      iter_row (N := 20) (g := fun n x => if plc n = 2 ∧ ¬ rsn n = 0 then -2 else x) (fun n t hn => by
        unfold f_X9_isWrong f_X0_leaveOut
        rw [x_plc hn, x_rsn hn, setCell_nI (by decide) hn]
        by_cases z : plc n = 2
        · by_cases y : rsn n = 0
          · simp only [z, y, if_true, not_true_eq_false, and_false, if_false, upd_self, cond_false]
          · simp only [z, y, if_true, not_false_eq_true, and_self, if_false, cond_true]
        · simp only [z, false_and, if_false, upd_self, cond_false]) _ 20 (Nat.le_refl _)
    rw [e]
    show (if o < 20 then _ else _) = _
    rw [if_pos ho]
    dsimp only
    rw [x_take ho]
    by_cases z : plc o = 2
    · by_cases y : rsn o = 0
      · simp [z, y]
      · simp [z, y]
    · simp [z]
theorem eq_canLaid (h : RSt N P B Q day votes isOpen baskets lays recs fneed clos boatO seaO faultO daysO backB sailB plc car bnd bsk dyL rsn pastF pastN logF logN mW) (hP : P ≤ 20) {o : Nat} (ho : o < P) : f_X10_canBeLaid seaO plc car (nI o) = f_X12_couldBeLaid mW (nI o) := by
  unfold f_X10_canBeLaid f_X12_couldBeLaid
  rw [x_plc (by omega), x_car (by omega), of_5 (by omega), of_6 (by omega), rs_plc h ho, rs_car h ho, eq_sea h hP ho]
  by_cases q : plc o = 0
  · rw [if_pos q, if_pos q, if_neg (by rw [q]; decide)]
  · rw [if_neg q, if_neg q]
    by_cases q1 : plc o = 1
    · obtain ⟨e, he⟩ := vin_nI ((h.2.1 o ho).2.2.2.2.2.2.2.2.1 q1)
      rw [if_pos q1, if_pos q1, e, eq_sea h hP he]
    · rw [if_neg q1, if_neg q1]
theorem canL_0 {o : Nat} (ho : o < 20) (h : f_X10_canBeLaid seaO plc car (nI o) = true) : ¬ plc o = 2 := by
  intro z
  unfold f_X10_canBeLaid at h
  rw [x_plc ho, z, if_neg (by decide), if_neg (by decide)] at h
  exact absurd h (by decide)
theorem eq_canWin (h : RSt N P B Q day votes isOpen baskets lays recs fneed clos boatO seaO faultO daysO backB sailB plc car bnd bsk dyL rsn pastF pastN logF logN mW) (hs : RSu P B Q nums bNames pNames fBoats nB nP mPpl mBts mNum mNam mFst mBnm) (hN : N ≤ 600) (blB blC : Nat → Int32) (x : Int32) : (f_X11_canWin nums nP day votes isOpen baskets fneed seaO backB plc car bsk blB blC x).1 = f_X12_canWin mPpl mBts mNum mW x := by
  have hP := su_P hs
  unfold f_X11_canWin f_X12_canWin
  rw [eq_isBasket, rs_open h, h.1.2.2.2.1.1]
  cases c1 : f_X12_isBasket x
  · rfl
  cases tb isOpen
  · rfl
  by_cases q : x < baskets
  · simp only [cond_true]
    rw [if_pos q, if_pos q]
    obtain ⟨ex, hx⟩ := vin_nI ((isIn_eq (n := 4) (by decide)).mp (show f_X11_isIn x (nI 4) = true from (eq_isBasket x).trans c1))
    have key : (S_X11_canWin_35 nums nP day votes isOpen fneed seaO backB plc car bsk blB blC x).1 = f_X12_resultOf mPpl mW (f_X12_needNow mPpl mBts mNum mW) 0 (L_X12_canWin_30 mW mPpl.toNatClampNeg) x := by
      have em : L_X12_canWin_30 mW P = nI (mskB (fun o => decide (o < P) && f_X10_canBeLaid seaO plc car (nI o)) 20) := by
        have e1 : L_X12_canWin_30 mW P = nI (mskB (fun o => f_X12_couldBeLaid mW (nI o)) P) := iter_msk (N := P) (by omega) (fun n s hn => by rw [or0]) P (Nat.le_refl _)
        rw [e1, mskB_ext _ hP (fun o h1 h2 => by rw [decide_eq_false (by omega)]; rfl)]
        exact congrArg nI (mskB_cong (fun o ho => by rw [decide_eq_true ho, ← eq_canLaid h hP ho]; rfl))
      have eP : (f_X7_people nP).toNatClampNeg = P := by
        show nP.toNatClampNeg = P
        rw [hs.1, nI_clamp (by omega)]
      unfold S_X11_canWin_35 f_X10_resultWithAllInto
      rw [← eq_needNow h hs hN, hs.2.1, nI_clamp (by omega), em, eP]
      dsimp only
      have hcan : ∀ o, o < 20 → ∀ n, n < 4 → decide ((if plc o = 2 then (bsk o).toNatClampNeg else if (decide (o < P) && f_X10_canBeLaid seaO plc car (nI o)) = true then x.toNatClampNeg else 4) = n) = ((decide (plc o = 2) && decide (bsk o = nI n)) && !(fun _ => false) o || (decide (nI n = x) && (decide (o < P) && f_X10_canBeLaid seaO plc car (nI o)))) := by
        intro o ho n hn
        by_cases z : plc o = 2
        · obtain ⟨-, h1, -⟩ := rs_lain h ho z
          obtain ⟨e, h2⟩ := vin_nI h1
          have hc0 : f_X10_canBeLaid seaO plc car (nI o) = false := by
            cases y : f_X10_canBeLaid seaO plc car (nI o)
            · rfl
            · exact absurd z (canL_0 ho y)
          rw [if_pos z, decide_eq_true z, hc0, Bool.and_false, Bool.and_false, Bool.or_false, Bool.true_and]
          show _ = (decide (bsk o = nI n) && true)
          rw [Bool.and_true]
          exact decide_eq_decide.mpr ⟨fun y => by rw [← y]; exact e, fun y => by rw [y, nI_clamp (by omega)]⟩
        · rw [if_neg z, decide_eq_false z, Bool.false_and, Bool.false_and, Bool.false_or]
          cases y : (decide (o < P) && f_X10_canBeLaid seaO plc car (nI o))
          · rw [if_neg (by decide), Bool.and_false]
            exact decide_eq_false (by omega)
          · rw [if_pos rfl, Bool.and_true]
            refine decide_eq_decide.mpr ⟨fun w => ?_, fun w => ?_⟩
            · rw [← w]
              exact ex.symm
            · rw [← w, nI_clamp (by omega)]
      rw [m_res2 h hP (c := fun o => if plc o = 2 then (bsk o).toNatClampNeg else if (decide (o < P) && f_X10_canBeLaid seaO plc car (nI o)) = true then x.toNatClampNeg else 4) (w := fun _ => false) (v := fun o => decide (o < P) && f_X10_canBeLaid seaO plc car (nI o)) (by rw [msk_f]; rfl) rfl hcan (fun o ho hc hv => by
        have hv2 : f_X10_canBeLaid seaO plc car (nI o) = true := by
          cases y : f_X10_canBeLaid seaO plc car (nI o)
          · rw [y, Bool.and_false] at hv
            exact absurd hv (by decide)
          · rfl
        show x = nI (if plc o = 2 then _ else _)
        rw [if_neg (canL_0 ho hv2), if_pos hv]
        exact ex) _]
      refine x_result (fun o ho => ?_) blC _
      have e : L_X10_resultWithAllInto_16 seaO plc car bsk blB x P = fun j => if j < P then (fun n y => if f_X10_canBeLaid seaO plc car (nI n) = true then x else y) j (f_X0_takeFrom blB plc bsk j) else f_X0_takeFrom blB plc bsk j :=
        iter_row (N := P) (g := fun n y => if f_X10_canBeLaid seaO plc car (nI n) = true then x else y) (fun n t hn => by
          unfold f_X0_put
          rw [setCell_nI (by decide) (by omega)]
          cases f_X10_canBeLaid seaO plc car (nI n)
          · rw [if_neg (by decide), upd_self]
            rfl
          · rw [if_pos rfl]
            rfl) _ P (Nat.le_refl _)
      rw [e]
      show (if o < P then _ else _) = bk (if plc o = 2 then _ else _)
      dsimp only
      rw [x_take ho]
      by_cases z : plc o = 2
      · obtain ⟨hp, h1, -⟩ := rs_lain h ho z
        obtain ⟨e, h2⟩ := vin_nI h1
        have hc0 : ¬ f_X10_canBeLaid seaO plc car (nI o) = true := fun y => absurd z (canL_0 ho y)
        rw [if_pos hp, if_neg hc0, if_pos z, if_pos z, bk_in h2]
        exact e
      · rw [if_neg z, if_neg z]
        by_cases hp : o < P
        · rw [if_pos hp, decide_eq_true hp, Bool.true_and]
          cases y : f_X10_canBeLaid seaO plc car (nI o)
          · rw [if_neg (by decide), if_neg (by decide)]
            rfl
          · rw [if_pos rfl, if_pos rfl, bk_in hx]
            exact ex
        · rw [if_neg hp, decide_eq_false hp, Bool.false_and, if_neg (by decide)]
          rfl
    rw [key]
    by_cases z : f_X12_resultOf mPpl mW (f_X12_needNow mPpl mBts mNum mW) 0 (L_X12_canWin_30 mW mPpl.toNatClampNeg) x = x
    · rw [if_pos z, if_pos z]
    · rw [if_neg z, if_neg z]
  · simp only [cond_true]
    rw [if_neg q, if_neg q]
end RE
