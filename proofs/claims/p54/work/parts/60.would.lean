theorem eq_isBasket (b : Int32) : f_X11_isBasket b = f_X12_isBasket b := (show f_X12_in b.toInt64 0 3 = f_X11_isIn b 4 from inL_P (n := 4) (by decide)).symm
section WO
variable {N P B Q : Nat} {day votes isOpen baskets lays recs fneed clos pastN logN : Int32} {boatO seaO faultO daysO backB sailB plc car bnd bsk dyL rsn pastF logF mW : Nat → Int32}
variable {nums bNames pNames fBoats : Nat → Int32} {nB nP mPpl mBts : Int32} {mNum mNam mFst mBnm : Nat → Int32}
theorem eq_has (h : RSt N P B Q day votes isOpen baskets lays recs fneed clos boatO seaO faultO daysO backB sailB plc car bnd bsk dyL rsn pastF pastN logF logN mW) (hP : P ≤ 20) {i j : Nat} (hi : i < P) (hj : j < P) : f_X9_isHadBy plc car (nI i) (nI j) = f_X12_has mW (nI i) (nI j) := by
  unfold f_X9_isHadBy f_X12_has
  rw [x_plc (by omega), x_car (by omega), of_5 (by omega), of_6 (by omega), rs_plc h hj, rs_car h hj]
  have hne := (h.2.1 j hj).2.2.2.2.2.2.1.2.2
  by_cases e : nI i = nI j
  · rw [if_pos e, if_pos e]
    by_cases q : plc j = 0
    · rw [if_pos q, if_pos q]
    · rw [if_neg q, if_neg q]
      by_cases q1 : plc j = 1
      · rw [if_pos q1, if_neg (fun z => hne (z.trans e))]
      · rw [if_neg q1]
  · rw [if_neg e, if_neg e]
    by_cases q : plc j = 0
    · rw [if_pos q, if_neg (by rw [q]; decide)]
    · rw [if_neg q]
theorem eq_reason (h : RSt N P B Q day votes isOpen baskets lays recs fneed clos boatO seaO faultO daysO backB sailB plc car bnd bsk dyL rsn pastF pastN logF logN mW) (hs : RSu P B Q nums bNames pNames fBoats nB nP mPpl mBts mNum mNam mFst mBnm) {i j : Nat} (hi : i < P) (hj : j < P) (b : Int32) : f_X10_reasonFor nums seaO plc car bnd (nI i) (nI j) b = f_X12_wrongBy mNum mW (nI i) (nI j) b := by
  have hP := hs.2.2.2.2.1.2
  have e7 : f_X7_numberOf nums 7 = mNum 7 := su_num hs (i := 7) (by decide)
  unfold f_X10_reasonFor f_X12_wrongBy
  rw [eq_sea h hP hj, eq_laidFor h hP hi, e7, x_bnd (by omega), of_7 (by omega), of_4 (by omega), rs_bnd h hj]
  have hb := (h.2.1 j hj).2.2.2.2.2.2.2.2.2.1.2
  have key : (if bnd j = -2 then (0 : Int32) else if bnd j = b then 0 else 3) = if bnd j < 0 then 0 else if bnd j = b then 0 else 3 := by
    rcases hb with q | q
    · rw [q, if_pos rfl, if_pos (by decide)]
    · have h1 : ¬ bnd j < 0 := fun z => q (Or.inl z)
      rw [if_neg h1, if_neg (fun z => h1 (by rw [z]; decide))]
  rw [key]
theorem person_n (hs : RSu P B Q nums bNames pNames fBoats nB nP mPpl mBts mNum mNam mFst mBnm) {x : Int32} (c : f_X12_isPerson mPpl x = true) : ∃ i, x = nI i ∧ i < P := by
  obtain ⟨-, b, -, -, ⟨-, hP⟩, -⟩ := hs
  unfold f_X12_isPerson at c
  rw [b, inL_P (by omega)] at c
  obtain ⟨e, h1⟩ := vin_nI ((isIn_eq (by omega)).mp c)
  exact ⟨_, e, h1⟩
theorem eq_why (h : RSt N P B Q day votes isOpen baskets lays recs fneed clos boatO seaO faultO daysO backB sailB plc car bnd bsk dyL rsn pastF pastN logF logN mW) (hs : RSu P B Q nums bNames pNames fBoats nB nP mPpl mBts mNum mNam mFst mBnm) (x y z : Int32) : f_X11_why nums nP isOpen baskets seaO plc car bnd x y z = f_X12_why mPpl mNum mW x y z := by
  have hP := hs.2.2.2.2.1.2
  unfold f_X11_why f_X11_refusalToLay f_X12_why f_X12_would
  rw [eq_isPerson hs, eq_isPerson hs, eq_isBasket, rs_open h, h.1.2.2.2.1.1]
  cases c1 : f_X12_isPerson mPpl x
  · rfl
  cases c2 : f_X12_isPerson mPpl y
  · rfl
  cases c3 : f_X12_isBasket z
  · rfl
  obtain ⟨i, rfl, hi⟩ := person_n hs c1
  obtain ⟨j, rfl, hj⟩ := person_n hs c2
  rw [eq_sea h hP hi, eq_has h hP hi hj, eq_reason h hs hi hj]
  cases f_X12_isAtSea mW (nI i)
  · cases f_X12_has mW (nI i) (nI j)
    · rfl
    · cases tb isOpen
      · rfl
      · by_cases q : z < baskets
        · simp [q]
        · simp [q]
  · rfl
end WO
