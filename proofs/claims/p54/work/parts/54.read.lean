/-! the readers of both sides, by plain numbers -/
theorem of_N {mW : Nat → Int32} {p c : Nat} (hp : p < 20) (hc : c < 11) : f_X12_of mW (nI p) (nI c) = mW (9 + 11 * p + c) := by
  unfold f_X12_of
  rw [of_nat (vp_in_nI hp (by decide)) (vp_in_nI hc (by decide)), nI_clamp (by omega), nI_clamp (by omega)]
theorem ofB_N {mW : Nat → Int32} {b c : Nat} (hb : b < 6) (hc : c < 3) : f_X12_ofBoat mW (nI b) (nI c) = mW (229 + 3 * b + c) := by
  unfold f_X12_ofBoat
  rw [ofB_nat (vp_in_nI hb (by decide)) (vp_in_nI hc (by decide)), nI_clamp (by omega), nI_clamp (by omega)]
theorem of_0 {mW : Nat → Int32} {p : Nat} (hp : p < 20) : f_X12_of mW (nI p) 0 = mW (9 + 11 * p + 0) := of_N (c := 0) hp (by decide)
theorem of_1 {mW : Nat → Int32} {p : Nat} (hp : p < 20) : f_X12_of mW (nI p) 1 = mW (9 + 11 * p + 1) := of_N (c := 1) hp (by decide)
theorem of_2 {mW : Nat → Int32} {p : Nat} (hp : p < 20) : f_X12_of mW (nI p) 2 = mW (9 + 11 * p + 2) := of_N (c := 2) hp (by decide)
theorem of_3 {mW : Nat → Int32} {p : Nat} (hp : p < 20) : f_X12_of mW (nI p) 3 = mW (9 + 11 * p + 3) := of_N (c := 3) hp (by decide)
theorem of_4 {mW : Nat → Int32} {p : Nat} (hp : p < 20) : f_X12_of mW (nI p) 4 = mW (9 + 11 * p + 4) := of_N (c := 4) hp (by decide)
theorem of_5 {mW : Nat → Int32} {p : Nat} (hp : p < 20) : f_X12_of mW (nI p) 5 = mW (9 + 11 * p + 5) := of_N (c := 5) hp (by decide)
theorem of_6 {mW : Nat → Int32} {p : Nat} (hp : p < 20) : f_X12_of mW (nI p) 6 = mW (9 + 11 * p + 6) := of_N (c := 6) hp (by decide)
theorem of_7 {mW : Nat → Int32} {p : Nat} (hp : p < 20) : f_X12_of mW (nI p) 7 = mW (9 + 11 * p + 7) := of_N (c := 7) hp (by decide)
theorem of_8 {mW : Nat → Int32} {p : Nat} (hp : p < 20) : f_X12_of mW (nI p) 8 = mW (9 + 11 * p + 8) := of_N (c := 8) hp (by decide)
theorem of_9 {mW : Nat → Int32} {p : Nat} (hp : p < 20) : f_X12_of mW (nI p) 9 = mW (9 + 11 * p + 9) := of_N (c := 9) hp (by decide)
theorem of_10 {mW : Nat → Int32} {p : Nat} (hp : p < 20) : f_X12_of mW (nI p) 10 = mW (9 + 11 * p + 10) := of_N (c := 10) hp (by decide)
theorem ofB_0 {mW : Nat → Int32} {b : Nat} (hb : b < 6) : f_X12_ofBoat mW (nI b) 0 = mW (229 + 3 * b + 0) := ofB_N (c := 0) hb (by decide)
theorem ofB_1 {mW : Nat → Int32} {b : Nat} (hb : b < 6) : f_X12_ofBoat mW (nI b) 1 = mW (229 + 3 * b + 1) := ofB_N (c := 1) hb (by decide)
theorem ofB_2 {mW : Nat → Int32} {b : Nat} (hb : b < 6) : f_X12_ofBoat mW (nI b) 2 = mW (229 + 3 * b + 2) := ofB_N (c := 2) hb (by decide)
theorem x_plc {plc : Nat → Int32} {n : Nat} (h : n < 20) : f_X9_placeOf plc (nI n) = plc n := by unfold f_X9_placeOf; exact cell_nI (by decide) h
theorem x_car {car : Nat → Int32} {n : Nat} (h : n < 20) : f_X9_carrierOf car (nI n) = car n := by unfold f_X9_carrierOf; exact cell_nI (by decide) h
theorem x_bnd {bnd : Nat → Int32} {n : Nat} (h : n < 20) : f_X9_boundTo bnd (nI n) = bnd n := by unfold f_X9_boundTo; exact cell_nI (by decide) h
theorem x_bsk {bsk : Nat → Int32} {n : Nat} (h : n < 20) : f_X9_basketOf bsk (nI n) = bsk n := by unfold f_X9_basketOf; exact cell_nI (by decide) h
theorem x_dyL {dyL : Nat → Int32} {n : Nat} (h : n < 20) : f_X9_dayOf dyL (nI n) = dyL n := by unfold f_X9_dayOf; exact cell_nI (by decide) h
theorem x_rsn {rsn : Nat → Int32} {n : Nat} (h : n < 20) : f_X9_reasonOf rsn (nI n) = rsn n := by unfold f_X9_reasonOf; exact cell_nI (by decide) h
theorem x_boatO {boatO : Nat → Int32} {n : Nat} (h : n < 20) : f_X2_boatOf boatO (nI n) = boatO n := by unfold f_X2_boatOf; exact cell_nI (by decide) h
theorem x_faultO {faultO : Nat → Int32} {n : Nat} (h : n < 20) : f_X2_faultsOf faultO (nI n) = faultO n := by unfold f_X2_faultsOf; exact cell_nI (by decide) h
theorem x_daysO {daysO : Nat → Int32} {n : Nat} (h : n < 20) : f_X2_daysAtSeaOf daysO (nI n) = daysO n := by unfold f_X2_daysAtSeaOf; exact cell_nI (by decide) h
theorem x_backB {backB : Nat → Int32} {n : Nat} (h : n < 6) : f_X2_backOf backB (nI n) = backB n := by unfold f_X2_backOf; exact cell_nI (by decide) h
theorem x_sailB {sailB : Nat → Int32} {n : Nat} (h : n < 6) : f_X2_sailedOf sailB (nI n) = sailB n := by unfold f_X2_sailedOf; exact cell_nI (by decide) h
theorem x_sea {seaO : Nat → Int32} {n : Nat} (h : n < 20) : f_X2_isAtSea seaO (nI n) = !(seaO n == 0) := by
  unfold f_X2_isAtSea
  rw [cell_nI (by decide) h]
  by_cases q : seaO n = 0
  · rw [if_pos q, q]; rfl
  · rw [if_neg q, beq_false_of_ne q]; rfl
theorem x_out {backB : Nat → Int32} {n : Nat} (h : n < 6) : f_X2_isOut backB (nI n) = !(backB n == 0) := by
  unfold f_X2_isOut
  rw [cell_nI (by decide) h]
  by_cases q : backB n = 0
  · rw [if_pos q, q]; rfl
  · rw [if_neg q, beq_false_of_ne q]; rfl
theorem m_sea {mW : Nat → Int32} {n : Nat} (h : n < 20) : f_X12_isAtSea mW (nI n) = decide (0 ≤ mW (9 + 11 * n + 1)) := by
  unfold f_X12_isAtSea
  rw [of_1 h]
  by_cases q : mW (9 + 11 * n + 1) < 0
  · rw [if_pos q, decide_eq_false (fun z => Int32.not_lt.mpr z q)]
  · rw [if_neg q, decide_eq_true (Int32.not_lt.mp q)]
theorem m_out {mW : Nat → Int32} {n : Nat} (h : n < 6) : f_X12_isOut mW (nI n) = (mW (229 + 3 * n) == 1) := by
  unfold f_X12_isOut
  rw [ofB_0 h]
  by_cases q : mW (229 + 3 * n) = 1
  · rw [if_pos (show mW (229 + 3 * n + 0) = 1 from q), q]; rfl
  · rw [if_neg (show ¬ mW (229 + 3 * n + 0) = 1 from q), beq_false_of_ne q]
theorem ite2 {a b : Prop} [Decidable a] [Decidable b] {α : Type} {x y : α} : (if a then (if b then x else y) else y) = bif (decide a && decide b) then x else y := by
  by_cases h : a
  · by_cases q : b
    · simp [h, q]
    · simp [h, q]
  · simp [h]
theorem ite1 {a : Prop} [Decidable a] {α : Type} {x y : α} : (if a then x else y) = bif decide a then x else y := by
  by_cases h : a
  · simp [h]
  · simp [h]
theorem or0 (s : Int32) : s ||| 0 = s := Int32.or_zero
/-- the sets: what is carried, what lies in a basket, what is wrong -/
theorem x_carried (plc car : Nat → Int32) (p : Int32) : f_X9_carriedBy plc car p = nI (mskB (fun o => decide (plc o = 1) && decide (car o = p)) 20) :=
  iter_msk (N := 20) (by decide) (fun n s hn => by rw [x_plc hn, x_car hn, ite2]) 20 (Nat.le_refl _)
theorem m_carried (mW : Nat → Int32) (p : Int32) {P : Nat} (hP : P ≤ 20) : f_X12_carriedBy (nI P) mW p = nI (mskB (fun o => decide (mW (9 + 11 * o + 5) = 1) && decide (mW (9 + 11 * o + 6) = p)) P) := by
  unfold f_X12_carriedBy
  rw [nI_clamp (by omega)]
  exact iter_msk (N := P) (by omega) (fun n s hn => by rw [of_5 (by omega), of_6 (by omega), or0, ite2]) P (Nat.le_refl _)
theorem x_maskIn (plc bsk : Nat → Int32) (b : Int32) : f_X9_maskIn plc bsk b = nI (mskB (fun o => decide (plc o = 2) && decide (bsk o = b)) 20) :=
  iter_msk (N := 20) (by decide) (fun n s hn => by rw [x_plc hn, x_bsk hn, ite2]) 20 (Nat.le_refl _)
theorem m_setIn (mW : Nat → Int32) (b : Int32) {P : Nat} (hP : P ≤ 20) : f_X12_setIn (nI P) mW b = nI (mskB (fun o => decide (mW (9 + 11 * o + 5) = 2) && decide (mW (9 + 11 * o + 8) = b)) P) := by
  unfold f_X12_setIn
  rw [nI_clamp (by omega)]
  exact iter_msk (N := P) (by omega) (fun n s hn => by rw [of_5 (by omega), of_8 (by omega), or0, ite2]) P (Nat.le_refl _)
theorem x_wrong (plc rsn : Nat → Int32) : f_X9_wrongMask plc rsn = nI (mskB (fun o => decide (plc o = 2) && !decide (rsn o = 0)) 20) :=
  iter_msk (N := 20) (by decide) (fun n s hn => by
    have e : f_X9_isWrong plc rsn (nI n) = (decide (plc n = 2) && !decide (rsn n = 0)) := by
      unfold f_X9_isWrong
      rw [x_plc hn, x_rsn hn]
      by_cases h : plc n = 2
      · by_cases q : rsn n = 0
        · simp [h, q]
        · simp [h, q]
      · simp [h]
    rw [e]) 20 (Nat.le_refl _)
theorem m_wrong (mW : Nat → Int32) {P : Nat} (hP : P ≤ 20) : f_X12_wrongSet (nI P) mW = nI (mskB (fun o => decide (mW (9 + 11 * o + 5) = 2) && !decide (mW (9 + 11 * o + 10) ≤ 0)) P) := by
  unfold f_X12_wrongSet
  rw [nI_clamp (by omega)]
  exact iter_msk (N := P) (by omega) (fun n s hn => by
    rw [of_5 (by omega), of_10 (by omega), or0]
    by_cases h : mW (9 + 11 * n + 5) = 2
    · by_cases q : mW (9 + 11 * n + 10) ≤ 0
      · simp [h, q]
      · simp [h, q]
    · simp [h]) P (Nat.le_refl _)
theorem x_countAt (plc : Nat → Int32) (v : Int32) : f_X9_countAt plc v = nI (cntB (fun o => decide (plc o = v)) 20) :=
  iter_cnt (N := 20) (fun n s hn => by rw [x_plc hn, ite1]) 20 (Nat.le_refl _)
theorem m_struck (mW : Nat → Int32) {P : Nat} (hP : P ≤ 20) : f_X12_struckMany (nI P) mW = nI (cntB (fun o => decide (mW (9 + 11 * o + 5) = 3)) P) := by
  unfold f_X12_struckMany
  rw [nI_clamp (by omega)]
  exact iter_cnt (N := P) (fun n s hn => by rw [of_5 (by omega), Int32.add_zero, ite1]) P (Nat.le_refl _)
theorem x_laidFor (plc car : Nat → Int32) (p : Int32) : f_X9_laidForOthers plc car p = nI (cntB (fun o => (plc o == 2 || plc o == 3) && car o == p) 20) :=
  iter_cnt (N := 20) (fun n s hn => by
    rw [x_plc hn, x_car hn]
    by_cases h : plc n = 2
    · by_cases q : car n = p
      · simp [h, q]
      · simp [h, q, beq_false_of_ne q]
    · by_cases h3 : plc n = 3
      · by_cases q : car n = p
        · simp [h3, q]
        · simp [h3, q, beq_false_of_ne q]
      · simp [h, h3, beq_false_of_ne h, beq_false_of_ne h3]) 20 (Nat.le_refl _)
