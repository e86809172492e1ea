section NV
variable {N P B Q : Nat} {day votes isOpen baskets lays recs fneed clos pastN logN : Int32} {boatO seaO faultO daysO backB sailB plc car bnd bsk dyL rsn pastF logF mW : Nat → Int32}
variable {nums bNames pNames fBoats : Nat → Int32} {nB nP mPpl mBts : Int32} {mNum mNam mFst mBnm : Nat → Int32}
theorem rs_day (h : RSt N P B Q day votes isOpen baskets lays recs fneed clos boatO seaO faultO daysO backB sailB plc car bnd bsk dyL rsn pastF pastN logF logN mW) : mW 0 = day := h.1.1.1
theorem rs_day_n (h : RSt N P B Q day votes isOpen baskets lays recs fneed clos boatO seaO faultO daysO backB sailB plc car bnd bsk dyL rsn pastF pastN logF logN mW) : ∃ n, day = nI n ∧ n ≤ 99 * N := by
  obtain ⟨e, h1⟩ := vin_nI h.1.1.2
  exact ⟨_, e, by omega⟩
theorem rs_votes (h : RSt N P B Q day votes isOpen baskets lays recs fneed clos boatO seaO faultO daysO backB sailB plc car bnd bsk dyL rsn pastF pastN logF logN mW) : mW 1 = votes := h.1.2.1.1
theorem rs_open (h : RSt N P B Q day votes isOpen baskets lays recs fneed clos boatO seaO faultO daysO backB sailB plc car bnd bsk dyL rsn pastF pastN logF logN mW) : f_X12_isOpen mW = tb isOpen := by
  unfold f_X12_isOpen
  rw [h.1.2.2.1.1]
  cases tb isOpen <;> rfl
theorem rs_closed (h : RSt N P B Q day votes isOpen baskets lays recs fneed clos boatO seaO faultO daysO backB sailB plc car bnd bsk dyL rsn pastF pastN logF logN mW) : f_X12_isClosed mW = (!decide (votes ≤ 0) && !tb isOpen) := by
  unfold f_X12_isClosed
  rw [rs_open h, rs_votes h]
  by_cases q : votes ≤ 0
  · rw [if_pos q, decide_eq_true q]; rfl
  · rw [if_neg q, decide_eq_false q]
    cases tb isOpen <;> rfl
theorem eq_need0 (h : RSt N P B Q day votes isOpen baskets lays recs fneed clos boatO seaO faultO daysO backB sailB plc car bnd bsk dyL rsn pastF pastN logF logN mW) (hs : RSu P B Q nums bNames pNames fBoats nB nP mPpl mBts mNum mNam mFst mBnm) (hN : N ≤ 600) : f_X10_needOf nums nP day (f_X2_boatsOut backB) = f_X12_needIn0 mPpl mBts mNum mW 0 := by
  obtain ⟨n, e, hn⟩ := rs_day_n h
  unfold f_X12_needIn0
  rw [Int32.add_zero, rs_day h, eq_boatsOut h hs.2.2.2.2.2.1, ← hs.2.2.2.1, e]
  exact eq_needOf hs (by omega) _
theorem eq_needNow (h : RSt N P B Q day votes isOpen baskets lays recs fneed clos boatO seaO faultO daysO backB sailB plc car bnd bsk dyL rsn pastF pastN logF logN mW) (hs : RSu P B Q nums bNames pNames fBoats nB nP mPpl mBts mNum mNam mFst mBnm) (hN : N ≤ 600) : f_X10_needOfVote nums nP day votes isOpen fneed backB = f_X12_needNow mPpl mBts mNum mW := by
  unfold f_X10_needOfVote f_X12_needNow
  rw [rs_closed h, eq_need0 h hs hN]
  by_cases q : votes ≤ 0
  · rw [if_pos q, decide_eq_true q]; rfl
  · rw [if_neg q, decide_eq_false q]
    cases q2 : tb isOpen
    · exact ((h.1.2.2.2.2.2.2 q2).1).symm
    · rfl
end NV
