/-! WHAT THE READERS TELL, in the state's own rows -/
theorem vinI {a n : Nat} (h : a < n) (hn : n < 2 ^ 31) : vp_in (nI a) n := fun z => z.elim (nI_pos (by omega)) (by rw [nI_clamp (by omega)]; omega)
theorem isIn_nI {a n : Nat} (h : a < n) (hn : n < 2 ^ 31) : f_X11_isIn (nI a) (nI n) = true := (isIn_eq hn).mpr (vinI h hn)
section RD
variable {N P B Q : Nat} {v : VT}
theorem ra_nP (hR : RA N P B Q v) : v_nP v = nI P ∧ 2 ≤ P ∧ P ≤ 20 := by
  obtain ⟨mTaped, mErr, mPpl, mBts, mUs, mTape, mNum, mNam, mFst, mBnm, mW, mUn, mSl, mKp, hR⟩ := hR
  exact ⟨hR.1.1, hR.1.2.2.2.2.1⟩
theorem ra_nB (hR : RA N P B Q v) : v_nB v = nI B ∧ B ≤ 6 := by
  obtain ⟨mTaped, mErr, mPpl, mBts, mUs, mTape, mNum, mNam, mFst, mBnm, mW, mUn, mSl, mKp, hR⟩ := hR
  exact ⟨hR.1.2.2.1, hR.1.2.2.2.2.2.1⟩
theorem ra_isP (hR : RA N P B Q v) {p : Nat} (hp : p < P) : f_X11_isPerson (v_nP v) (nI p) = true := by
  obtain ⟨h1, h2, h3⟩ := ra_nP hR
  rw [h1]
  exact isIn_nI hp (by omega)
theorem ra_isB (hR : RA N P B Q v) {b : Nat} (hb : b < B) : f_X11_isBoat (v_nB v) (nI b) = true := by
  obtain ⟨h1, h2⟩ := ra_nB hR
  rw [h1]
  exact isIn_nI hb (by omega)
theorem ra_isP' (hR : RA N P B Q v) {x : Int32} (h : f_X11_isPerson (v_nP v) x = true) : ∃ p, x = nI p ∧ p < P := by
  obtain ⟨h1, h2, h3⟩ := ra_nP hR
  rw [h1] at h
  obtain ⟨e, hlt⟩ := vin_nI ((isIn_eq (n := P) (by omega)).mp h)
  exact ⟨_, e, hlt⟩
theorem ra_isB' (hR : RA N P B Q v) {x : Int32} (h : f_X11_isBoat (v_nB v) x = true) : ∃ b, x = nI b ∧ b < B := by
  obtain ⟨h1, h2⟩ := ra_nB hR
  rw [h1] at h
  obtain ⟨e, hlt⟩ := vin_nI ((isIn_eq (n := B) (by omega)).mp h)
  exact ⟨_, e, hlt⟩
theorem days_of {x : Int32} (h : f_X11_isDays x = true) : ∃ d, x = nI d ∧ 1 ≤ d ∧ d ≤ 99 := by
  unfold f_X11_isDays at h
  by_cases h1 : x < 1
  · rw [if_pos h1] at h
    cases h
  · rw [if_neg h1] at h
    by_cases h2 : (99 : Int32) < x
    · rw [if_pos h2] at h
      cases h
    · have h0 : ¬ x < 0 := fun z => h1 (Int32.lt_of_lt_of_le z (by decide))
      obtain ⟨d, hd, rfl⟩ := nI_of h0
      refine ⟨d, rfl, ?_, ?_⟩
      · rcases Nat.eq_zero_or_pos d with z | z
        · subst z
          exact absurd (show (nI 0 : Int32) < 1 by decide) h1
        · exact z
      · have := (nI_leI (b := 99) hd (by omega)).mp (Int32.not_lt.mp h2)
        omega
theorem bask_n {x : Int32} (h : f_X11_isBasket x = true) : ∃ b, x = nI b ∧ b < 4 := by
  obtain ⟨e, hlt⟩ := vin_nI ((isIn_eq (n := 4) (by decide)).mp (show f_X11_isIn x (nI 4) = true from h))
  exact ⟨_, e, hlt⟩
theorem av_0 (v : VT) : a_value v 0 = v_day v := by
  unfold a_value f_X11_value
  rw [if_pos rfl]
theorem av_1 (v : VT) : a_value v 1 = f_X10_seasonOn (v_nums v) (v_day v) := by
  unfold a_value f_X11_value
  rw [if_neg (by decide), if_pos rfl]
theorem av_2 (v : VT) : a_value v 2 = v_nP v := by
  unfold a_value f_X11_value
  rw [if_neg (by decide), if_neg (by decide), if_pos rfl]
theorem av_3 (v : VT) : a_value v 3 = v_nB v := by
  unfold a_value f_X11_value
  rw [if_neg (by decide), if_neg (by decide), if_neg (by decide), if_pos rfl]
theorem av_4 (v : VT) : a_value v 4 = f_X2_boatsOut (v_backB v) := by
  unfold a_value f_X11_value
  rw [if_neg (by decide), if_neg (by decide), if_neg (by decide), if_neg (by decide), if_pos rfl]
theorem av_5 (v : VT) : a_value v 5 = f_X2_peopleAtSea (v_seaO v) := by
  unfold a_value f_X11_value
  rw [if_neg (by decide), if_neg (by decide), if_neg (by decide), if_neg (by decide), if_neg (by decide), if_pos rfl]
theorem av_6 (v : VT) : a_value v 6 = f_X10_needOfVote (v_nums v) (v_nP v) (v_day v) (v_votes v) (v_isOpen v) (v_fneed v) (v_backB v) := by
  unfold a_value f_X11_value
  rw [if_neg (by decide), if_neg (by decide), if_neg (by decide), if_neg (by decide), if_neg (by decide), if_neg (by decide), if_pos rfl]
theorem av_7 (v : VT) : a_value v 7 = f_X9_turnout (v_plc v) := by
  unfold a_value f_X11_value
  rw [if_neg (by decide), if_neg (by decide), if_neg (by decide), if_neg (by decide), if_neg (by decide), if_neg (by decide), if_neg (by decide), if_pos rfl]
theorem av_8 (v : VT) : a_value v 8 = f_X10_stateOfVote (v_nums v) (v_day v) (v_votes v) (v_isOpen v) (v_clos v) := by
  unfold a_value f_X11_value
  rw [if_neg (by decide), if_neg (by decide), if_neg (by decide), if_neg (by decide), if_neg (by decide), if_neg (by decide), if_neg (by decide), if_neg (by decide), if_pos rfl]
theorem av_9 (v : VT) : a_value v 9 = v_baskets v := by
  unfold a_value f_X11_value
  rw [if_neg (by decide), if_neg (by decide), if_neg (by decide), if_neg (by decide), if_neg (by decide), if_neg (by decide), if_neg (by decide), if_neg (by decide), if_neg (by decide), if_pos rfl]
theorem av_11 (v : VT) : a_value v 11 = f_X9_struckOnes (v_plc v) := by
  unfold a_value f_X11_value
  rw [if_neg (by decide), if_neg (by decide), if_neg (by decide), if_neg (by decide), if_neg (by decide), if_neg (by decide), if_neg (by decide), if_neg (by decide), if_neg (by decide), if_neg (by decide), if_neg (by decide), if_pos rfl]
theorem av_12 (v : VT) : a_value v 12 = v_recs v := by
  unfold a_value f_X11_value
  rw [if_neg (by decide), if_neg (by decide), if_neg (by decide), if_neg (by decide), if_neg (by decide), if_neg (by decide), if_neg (by decide), if_neg (by decide), if_neg (by decide), if_neg (by decide), if_neg (by decide), if_neg (by decide), if_pos rfl]
theorem av_13 (v : VT) : a_value v 13 = v_votes v := by
  unfold a_value f_X11_value
  rw [if_neg (by decide), if_neg (by decide), if_neg (by decide), if_neg (by decide), if_neg (by decide), if_neg (by decide), if_neg (by decide), if_neg (by decide), if_neg (by decide), if_neg (by decide), if_neg (by decide), if_neg (by decide), if_neg (by decide), if_pos rfl]
theorem av_15 (v : VT) : a_value v 15 = v_nP v - f_X2_peopleAtSea (v_seaO v) := by
  unfold a_value f_X11_value
  rw [if_neg (by decide), if_neg (by decide), if_neg (by decide), if_neg (by decide), if_neg (by decide), if_neg (by decide), if_neg (by decide), if_neg (by decide), if_neg (by decide), if_neg (by decide), if_neg (by decide), if_neg (by decide), if_neg (by decide), if_neg (by decide), if_neg (by decide), if_pos rfl]
theorem av_16 (v : VT) : a_value v 16 = f_J6_bitCount_0f7a4 (f_X9_wrongMask (v_plc v) (v_rsn v)) := by
  unfold a_value f_X11_value
  rw [if_neg (by decide), if_neg (by decide), if_neg (by decide), if_neg (by decide), if_neg (by decide), if_neg (by decide), if_neg (by decide), if_neg (by decide), if_neg (by decide), if_neg (by decide), if_neg (by decide), if_neg (by decide), if_neg (by decide), if_neg (by decide), if_neg (by decide), if_neg (by decide), if_pos rfl]
theorem av_10 (v : VT) : a_value v 10 = bif tb (v_isOpen v) then -2 else (f_X10_resultNow (v_nums v) (v_nP v) (v_day v) (v_votes v) (v_isOpen v) (v_fneed v) (v_backB v) (v_plc v) (v_bsk v) z0 z0).1 := by
  unfold a_value f_X11_value S_X11_value_199
  rw [if_neg (by decide), if_neg (by decide), if_neg (by decide), if_neg (by decide), if_neg (by decide), if_neg (by decide), if_neg (by decide), if_neg (by decide), if_neg (by decide), if_neg (by decide), if_pos rfl]
  cases tb (v_isOpen v)
  · rfl
  · rfl
theorem pe_0 (hR : RA N P B Q v) {p : Nat} (hp : p < P) : a_person v (nI p) 0 = v_boatO v p := by
  obtain ⟨-, -, h3⟩ := ra_nP hR
  unfold a_person f_X11_person
  rw [ra_isP hR hp, cond_true, if_pos rfl]
  exact x_boatO (by omega)
theorem pe_1 (hR : RA N P B Q v) {p : Nat} (hp : p < P) : a_person v (nI p) 1 = if v_seaO v p = 0 then 0 else 1 := by
  obtain ⟨-, -, h3⟩ := ra_nP hR
  unfold a_person f_X11_person
  rw [ra_isP hR hp, cond_true, if_neg (by decide), if_pos rfl]
  rw [x_sea (by omega)]
  by_cases q : v_seaO v p = 0
  · rw [if_pos q, q]
    rfl
  · rw [if_neg q, beq_false_of_ne q]
    rfl
theorem pe_2 (hR : RA N P B Q v) {p : Nat} (hp : p < P) : a_person v (nI p) 2 = if v_seaO v p = 0 then v_day v else f_X2_backOf (v_backB v) (v_boatO v p) := by
  obtain ⟨-, -, h3⟩ := ra_nP hR
  unfold a_person f_X11_person
  rw [ra_isP hR hp, cond_true, if_neg (by decide), if_neg (by decide), if_pos rfl]
  unfold f_X10_homeDayOf
  rw [x_sea (by omega), x_boatO (by omega)]
  by_cases q : v_seaO v p = 0
  · rw [if_pos q, q]
    rfl
  · rw [if_neg q, beq_false_of_ne q]
    rfl
theorem pe_3 (hR : RA N P B Q v) {p : Nat} (hp : p < P) : a_person v (nI p) 3 = v_faultO v p := by
  obtain ⟨-, -, h3⟩ := ra_nP hR
  unfold a_person f_X11_person
  rw [ra_isP hR hp, cond_true, if_neg (by decide), if_neg (by decide), if_neg (by decide), if_pos rfl]
  exact x_faultO (by omega)
theorem pe_4 (hR : RA N P B Q v) {p : Nat} (hp : p < P) : a_person v (nI p) 4 = nI (cntB (fun o => decide (v_plc v o = 1) && decide (v_car v o = nI p)) 20) := by
  obtain ⟨-, -, h3⟩ := ra_nP hR
  unfold a_person f_X11_person
  rw [ra_isP hR hp, cond_true, if_neg (by decide), if_neg (by decide), if_neg (by decide), if_neg (by decide), if_pos rfl]
  rw [x_carried, bitc_msk _ (by decide)]
theorem pe_6 (hR : RA N P B Q v) {p : Nat} (hp : p < P) : a_person v (nI p) 6 = v_daysO v p := by
  obtain ⟨-, -, h3⟩ := ra_nP hR
  unfold a_person f_X11_person
  rw [ra_isP hR hp, cond_true, if_neg (by decide), if_neg (by decide), if_neg (by decide), if_neg (by decide), if_neg (by decide), if_neg (by decide), if_pos rfl]
  exact x_daysO (by omega)
theorem sk_0 (hR : RA N P B Q v) {p : Nat} (hp : p < P) : a_stick v (nI p) 0 = v_plc v p := by
  obtain ⟨-, -, h3⟩ := ra_nP hR
  unfold a_stick f_X11_stick
  rw [ra_isP hR hp, cond_true, if_pos rfl]
  exact x_plc (by omega)
theorem sk_1 (hR : RA N P B Q v) {p : Nat} (hp : p < P) : a_stick v (nI p) 1 = v_car v p := by
  obtain ⟨-, -, h3⟩ := ra_nP hR
  unfold a_stick f_X11_stick
  rw [ra_isP hR hp, cond_true, if_neg (by decide), if_pos rfl]
  exact x_car (by omega)
theorem sk_2 (hR : RA N P B Q v) {p : Nat} (hp : p < P) : a_stick v (nI p) 2 = v_bnd v p := by
  obtain ⟨-, -, h3⟩ := ra_nP hR
  unfold a_stick f_X11_stick
  rw [ra_isP hR hp, cond_true, if_neg (by decide), if_neg (by decide), if_pos rfl]
  exact x_bnd (by omega)
theorem sk_3 (hR : RA N P B Q v) {p : Nat} (hp : p < P) : a_stick v (nI p) 3 = v_bsk v p := by
  obtain ⟨-, -, h3⟩ := ra_nP hR
  unfold a_stick f_X11_stick
  rw [ra_isP hR hp, cond_true, if_neg (by decide), if_neg (by decide), if_neg (by decide), if_pos rfl]
  exact x_bsk (by omega)
theorem sk_4 (hR : RA N P B Q v) {p : Nat} (hp : p < P) : a_stick v (nI p) 4 = v_dyL v p := by
  obtain ⟨-, -, h3⟩ := ra_nP hR
  unfold a_stick f_X11_stick
  rw [ra_isP hR hp, cond_true, if_neg (by decide), if_neg (by decide), if_neg (by decide), if_neg (by decide), if_pos rfl]
  exact x_dyL (by omega)
theorem sk_5 (hR : RA N P B Q v) {p : Nat} (hp : p < P) : a_stick v (nI p) 5 = v_rsn v p := by
  obtain ⟨-, -, h3⟩ := ra_nP hR
  unfold a_stick f_X11_stick
  rw [ra_isP hR hp, cond_true, if_neg (by decide), if_neg (by decide), if_neg (by decide), if_neg (by decide), if_neg (by decide), if_pos rfl]
  exact x_rsn (by omega)
theorem bo_0 (hR : RA N P B Q v) {b : Nat} (hb : b < B) : a_boat v (nI b) 0 = if v_backB v b = 0 then 0 else 1 := by
  obtain ⟨-, h3⟩ := ra_nB hR
  unfold a_boat f_X11_boat
  rw [ra_isB hR hb, cond_true, if_pos rfl]
  rw [x_out (by omega)]
  by_cases q : v_backB v b = 0
  · rw [if_pos q, q]
    rfl
  · rw [if_neg q, beq_false_of_ne q]
    rfl
theorem bo_1 (hR : RA N P B Q v) {b : Nat} (hb : b < B) : a_boat v (nI b) 1 = if v_backB v b = 0 then v_day v else v_backB v b := by
  obtain ⟨-, h3⟩ := ra_nB hR
  unfold a_boat f_X11_boat
  rw [ra_isB hR hb, cond_true, if_neg (by decide), if_pos rfl]
  rw [x_out (by omega), x_backB (by omega)]
  by_cases q : v_backB v b = 0
  · rw [if_pos q, q]
    rfl
  · rw [if_neg q, beq_false_of_ne q]
    rfl
theorem bo_2 (hR : RA N P B Q v) {b : Nat} (hb : b < B) : a_boat v (nI b) 2 = f_X2_aboard (v_boatO v) (v_seaO v) (nI b) := by
  obtain ⟨-, h3⟩ := ra_nB hR
  unfold a_boat f_X11_boat
  rw [ra_isB hR hb, cond_true, if_neg (by decide), if_neg (by decide), if_pos rfl]
theorem bo_3 (hR : RA N P B Q v) {b : Nat} (hb : b < B) : a_boat v (nI b) 3 = f_X2_belongingTo (v_boatO v) (nI b) := by
  obtain ⟨-, h3⟩ := ra_nB hR
  unfold a_boat f_X11_boat
  rw [ra_isB hR hb, cond_true, if_neg (by decide), if_neg (by decide), if_neg (by decide), if_pos rfl]
theorem aboard_n (boatO seaO : Nat → Int32) (b : Int32) : f_X2_aboard boatO seaO b = nI (cntB (fun p => decide (boatO p = b) && !decide (seaO p = 0)) 20) := by
  refine iter_cnt (N := 20) (fun n s hn => ?_) 20 (Nat.le_refl _)
  rw [x_boatO hn, x_sea hn]
  by_cases q : boatO n = b
  · rw [if_pos q, decide_eq_true q]
    by_cases q2 : seaO n = 0
    · rw [q2] <;> rfl
    · rw [beq_false_of_ne q2, decide_eq_false q2] <;> rfl
  · rw [if_neg q, decide_eq_false q] <;> rfl
theorem belong_n (boatO : Nat → Int32) (b : Int32) : f_X2_belongingTo boatO b = nI (cntB (fun p => decide (boatO p = b)) 20) := by
  refine iter_cnt (N := 20) (fun n s hn => ?_) 20 (Nat.le_refl _)
  rw [x_boatO hn]
  by_cases q : boatO n = b
  · rw [if_pos q, decide_eq_true q] <;> rfl
  · rw [if_neg q, decide_eq_false q] <;> rfl
theorem atsea_n (seaO : Nat → Int32) : f_X2_peopleAtSea seaO = nI (cntB (fun p => !decide (seaO p = 0)) 20) := by
  refine iter_cnt (N := 20) (fun n s hn => ?_) 20 (Nat.le_refl _)
  rw [x_sea hn]
  by_cases q2 : seaO n = 0
  · rw [q2] <;> rfl
  · rw [beq_false_of_ne q2, decide_eq_false q2] <;> rfl
theorem out_n (backB : Nat → Int32) : f_X2_boatsOut backB = nI (cntB (fun b => !decide (backB b = 0)) 6) := by
  refine iter_cnt (N := 6) (fun n s hn => ?_) 6 (Nat.le_refl _)
  rw [x_out hn]
  by_cases q2 : backB n = 0
  · rw [q2] <;> rfl
  · rw [beq_false_of_ne q2, decide_eq_false q2] <;> rfl
theorem outOn_n (backB : Nat → Int32) (d : Int32) : f_X2_boatsOutOn backB d = nI (cntB (fun b => !decide (backB b = 0) && !decide (backB b ≤ d)) 6) := by
  refine iter_cnt (N := 6) (fun n s hn => ?_) 6 (Nat.le_refl _)
  rw [x_out hn, x_backB hn]
  by_cases q2 : backB n = 0
  · rw [q2] <;> rfl
  · rw [beq_false_of_ne q2, decide_eq_false q2]
    by_cases q3 : backB n ≤ d
    · rw [if_pos q3, decide_eq_true q3] <;> rfl
    · rw [if_neg q3, decide_eq_false q3] <;> rfl
theorem atseaOn_n (boatO seaO backB : Nat → Int32) (d : Int32) : f_X2_peopleAtSeaOn boatO seaO backB d = nI (cntB (fun p => !decide (seaO p = 0) && !decide (f_X2_backOf backB (boatO p) ≤ d)) 20) := by
  refine iter_cnt (N := 20) (fun n s hn => ?_) 20 (Nat.le_refl _)
  rw [x_sea hn, x_boatO hn]
  by_cases q2 : seaO n = 0
  · rw [q2] <;> rfl
  · rw [beq_false_of_ne q2, decide_eq_false q2]
    by_cases q3 : f_X2_backOf backB (boatO n) ≤ d
    · rw [if_pos q3, decide_eq_true q3] <;> rfl
    · rw [if_neg q3, decide_eq_false q3] <;> rfl
theorem isBk {b : Nat} (hb : b < 4) : f_X11_isBasket (nI b) = true := isIn_nI hb (by decide)
theorem ow_n (v : VT) {b : Nat} (hb : b < 4) : a_owners v (nI b) = nI (mskB (fun o => decide (v_plc v o = 2) && decide (v_bsk v o = nI b)) 20) := by
  unfold a_owners f_X11_owners
  rw [isBk hb, cond_true, x_maskIn]
theorem ba_n (v : VT) {b : Nat} (hb : b < 4) : a_basket v (nI b) = nI (cntB (fun o => decide (v_plc v o = 2) && decide (v_bsk v o = nI b)) 20) := by
  unfold a_basket f_X11_basket f_X9_countIn
  rw [isBk hb, cond_true, x_maskIn, bitc_msk _ (by decide)]
theorem ca_n (hR : RA N P B Q v) {p : Nat} (hp : p < P) : a_carries v (nI p) = nI (mskB (fun o => decide (v_plc v o = 1) && decide (v_car v o = nI p)) 20) := by
  unfold a_carries f_X11_carries
  rw [ra_isP hR hp, cond_true, x_carried]
theorem nu_n (v : VT) {k : Nat} (hk : k < 10) : a_number v (nI k) = v_nums v k := by
  unfold a_number f_X11_number
  rw [show f_X11_isIn (nI k) 10 = true from isIn_nI hk (by decide), cond_true]
  exact number_nI hk
end RD
