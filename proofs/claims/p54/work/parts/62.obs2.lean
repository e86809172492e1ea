section OC
variable {N P B Q : Nat} {day votes isOpen baskets lays recs fneed clos pastN logN : Int32} {boatO seaO faultO daysO backB sailB plc car bnd bsk dyL rsn pastF logF mW : Nat → Int32}
variable {nums bNames pNames fBoats : Nat → Int32} {nB nP mPpl mBts : Int32} {mNum mNam mFst mBnm : Nat → Int32}
theorem eq_number (hs : RSu P B Q nums bNames pNames fBoats nB nP mPpl mBts mNum mNam mFst mBnm) (x : Int32) : f_X11_number nums x = f_X12_number_ mNum x := by
  unfold f_X11_number f_X12_number_
  have e : f_X12_in x.toInt64 0 9 = f_X11_isIn x 10 := inL_P (n := 10) (by decide)
  rw [e]
  cases c : f_X11_isIn x 10
  · rfl
  · obtain ⟨ex, hx⟩ := vin_nI ((isIn_eq (n := 10) (by decide)).mp c)
    show f_X7_numberOf nums x = mNum x.toNatClampNeg
    have q := su_num hs hx
    rw [← ex] at q
    exact q
theorem boat_n (hs : RSu P B Q nums bNames pNames fBoats nB nP mPpl mBts mNum mNam mFst mBnm) {x : Int32} (c : f_X12_isBoat mBts x = true) : ∃ i, x = nI i ∧ i < B := by
  obtain ⟨-, -, -, b, -, hB, -⟩ := hs
  unfold f_X12_isBoat at c
  rw [b, inL_P (by omega)] at c
  obtain ⟨e, h1⟩ := vin_nI ((isIn_eq (by omega)).mp c)
  exact ⟨_, e, h1⟩
theorem eq_stick (h : RSt N P B Q day votes isOpen baskets lays recs fneed clos boatO seaO faultO daysO backB sailB plc car bnd bsk dyL rsn pastF pastN logF logN mW) (hs : RSu P B Q nums bNames pNames fBoats nB nP mPpl mBts mNum mNam mFst mBnm) (x y : Int32) : f_X11_stick nP plc car bnd bsk dyL rsn x y = f_X12_stick mPpl mW x y := by
  have hP := hs.2.2.2.2.1.2
  unfold f_X11_stick f_X12_stick
  rw [eq_isPerson hs]
  cases c : f_X12_isPerson mPpl x
  · rfl
  · obtain ⟨i, rfl, hi⟩ := person_n hs c
    have e : f_X12_in y.toInt64 0 5 = f_X11_isIn y 6 := inL_P (n := 6) (by decide)
    rw [e, x_plc (by omega), x_car (by omega), x_bnd (by omega), x_bsk (by omega), x_dyL (by omega), x_rsn (by omega)]
    simp only [cond_true]
    cases c2 : f_X11_isIn y 6
    · have hn := isIn_nin (n := 6) (by decide) c2
      rw [if_neg (fun z => hn (by rw [z]; exact vin_d (by decide))), if_neg (fun z => hn (by rw [z]; exact vin_d (by decide))), if_neg (fun z => hn (by rw [z]; exact vin_d (by decide))), if_neg (fun z => hn (by rw [z]; exact vin_d (by decide))), if_neg (fun z => hn (by rw [z]; exact vin_d (by decide))), if_neg (fun z => hn (by rw [z]; exact vin_d (by decide)))]
      rfl
    · obtain ⟨ey, hy⟩ := vin_nI ((isIn_eq (n := 6) (by decide)).mp c2)
      rw [ey]
      generalize y.toNatClampNeg = k at hy
      match k, hy with
      | 0, _ => exact (rs_plc h hi).symm.trans (of_5 (by omega)).symm
      | 1, _ => exact (rs_car h hi).symm.trans (of_6 (by omega)).symm
      | 2, _ => exact (rs_bnd h hi).symm.trans (of_7 (by omega)).symm
      | 3, _ => exact (rs_bsk h hi).symm.trans (of_8 (by omega)).symm
      | 4, _ => exact (rs_dyL h hi).symm.trans (of_9 (by omega)).symm
      | 5, _ => exact (rs_rsn h hi).symm.trans (of_10 (by omega)).symm
end OC
