section OB
variable {N P B Q : Nat} {day votes isOpen baskets lays recs fneed clos pastN logN : Int32} {boatO seaO faultO daysO backB sailB plc car bnd bsk dyL rsn pastF logF mW : Nat → Int32}
variable {nums bNames pNames fBoats : Nat → Int32} {nB nP mPpl mBts : Int32} {mNum mNam mFst mBnm : Nat → Int32}
theorem su_P (hs : RSu P B Q nums bNames pNames fBoats nB nP mPpl mBts mNum mNam mFst mBnm) : P ≤ 20 := hs.2.2.2.2.1.2
theorem su_Q (hs : RSu P B Q nums bNames pNames fBoats nB nP mPpl mBts mNum mNam mFst mBnm) : 0 < Q ∧ Q < 2 ^ 31 := by
  have h1 := hs.2.2.2.2.2.2.2.2.2.2.2.2.2.1
  have := vin_lt (n := 3) h1.1
  rw [h1.2]
  omega
theorem eq_carries (h : RSt N P B Q day votes isOpen baskets lays recs fneed clos boatO seaO faultO daysO backB sailB plc car bnd bsk dyL rsn pastF pastN logF logN mW) (hs : RSu P B Q nums bNames pNames fBoats nB nP mPpl mBts mNum mNam mFst mBnm) (x : Int32) : f_X11_carries nP plc car x = f_X12_carries mPpl mW x := by
  unfold f_X11_carries f_X12_carries
  rw [eq_isPerson hs, eq_carried h (su_P hs), hs.2.1]
theorem eq_owners (h : RSt N P B Q day votes isOpen baskets lays recs fneed clos boatO seaO faultO daysO backB sailB plc car bnd bsk dyL rsn pastF pastN logF logN mW) (hs : RSu P B Q nums bNames pNames fBoats nB nP mPpl mBts mNum mNam mFst mBnm) (x : Int32) : f_X11_owners plc bsk x = f_X12_owners mPpl mW x := by
  unfold f_X11_owners f_X12_owners
  rw [eq_isBasket, eq_setIn h (su_P hs), hs.2.1]
theorem eq_wrongOnes (h : RSt N P B Q day votes isOpen baskets lays recs fneed clos boatO seaO faultO daysO backB sailB plc car bnd bsk dyL rsn pastF pastN logF logN mW) (hs : RSu P B Q nums bNames pNames fBoats nB nP mPpl mBts mNum mNam mFst mBnm) : f_X11_wrongOnes plc rsn = f_X12_wrongOnes mPpl mW := by
  unfold f_X11_wrongOnes f_X12_wrongOnes
  rw [eq_wrong h (su_P hs), hs.2.1]
theorem eq_basket (h : RSt N P B Q day votes isOpen baskets lays recs fneed clos boatO seaO faultO daysO backB sailB plc car bnd bsk dyL rsn pastF pastN logF logN mW) (hs : RSu P B Q nums bNames pNames fBoats nB nP mPpl mBts mNum mNam mFst mBnm) (x : Int32) : f_X11_basket plc bsk x = f_X12_basket mPpl mW x := by
  unfold f_X11_basket f_X12_basket f_X9_countIn
  rw [eq_isBasket, ← hs.2.1.symm, ← eq_setIn h (su_P hs), x_maskIn, bitc_msk _ (by decide), ones_msk _ (by decide)]
theorem eq_lacks (h : RSt N P B Q day votes isOpen baskets lays recs fneed clos boatO seaO faultO daysO backB sailB plc car bnd bsk dyL rsn pastF pastN logF logN mW) (hs : RSu P B Q nums bNames pNames fBoats nB nP mPpl mBts mNum mNam mFst mBnm) (hN : N ≤ 600) : f_X11_lacks nums nP day votes isOpen fneed backB plc = f_X12_lacks mPpl mBts mNum mW := by
  unfold f_X11_lacks f_X12_lacks f_X9_turnout
  rw [eq_needNow h hs hN, eq_turnout h (su_P hs), rs_open h, ← hs.2.1]
  cases tb isOpen
  · rfl
  · show (if f_X12_needNow mPpl mBts mNum mW - f_X12_turnout mPpl mW < 0 then (0 : Int32) else _) = if 0 ≤ f_X12_needNow mPpl mBts mNum mW - f_X12_turnout mPpl mW then _ else 0
    by_cases q : f_X12_needNow mPpl mBts mNum mW - f_X12_turnout mPpl mW < 0
    · rw [if_pos q, if_neg (Int32.not_le.mpr q)]
    · rw [if_neg q, if_pos (Int32.not_lt.mp q)]
end OB
