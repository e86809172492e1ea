/-! NEED -/
theorem xor_nI (a b : Nat) : nI a ^^^ nI b = nI (a ^^^ b) := by
  apply Int32.toBitVec_inj.mp
  rw [Int32.toBitVec_xor]
  apply BitVec.eq_of_toNat_eq
  rw [BitVec.toNat_xor]
  show a % 2 ^ 32 ^^^ b % 2 ^ 32 = (a ^^^ b) % 2 ^ 32
  rw [Nat.xor_mod_two_pow]
theorem floorMod_nI {a d : Nat} (ha : a < 2 ^ 31) (h0 : 0 < d) (hd : d < 2 ^ 31) : f_J9_floorMod_7cf53 (nI a) (nI d) = nI (a % d) := by
  unfold f_J9_floorMod_7cf53
  rw [if_pos (by rw [xor_nI]; exact nI_pos' (Nat.xor_lt_two_pow ha hd)), pk_rem ha h0 hd]
theorem number_nI {nums : Nat → Int32} {i : Nat} (h : i < 10) : f_X7_numberOf nums (nI i) = nums i := by
  unfold f_X7_numberOf
  exact cell_nI (by decide) h
section NE
variable {P B Q : Nat} {nums bNames pNames fBoats : Nat → Int32} {nB nP mPpl mBts : Int32} {mNum mNam mFst mBnm : Nat → Int32}
theorem su_long (h : RSu P B Q nums bNames pNames fBoats nB nP mPpl mBts mNum mNam mFst mBnm) : ∃ l : Nat, mNum 0 = nI l ∧ 1 ≤ l ∧ l ≤ 100 := by
  obtain ⟨-, -, -, -, -, -, -, ⟨h1, h2⟩, -⟩ := h
  obtain ⟨e, h3⟩ := vin_nI h1
  refine ⟨_, e, ?_, by omega⟩
  rcases Nat.eq_zero_or_pos (mNum 0).toNatClampNeg with q | q
  · rw [q] at e
    exact absurd e h2
  · exact q
theorem su_num (h : RSu P B Q nums bNames pNames fBoats nB nP mPpl mBts mNum mNam mFst mBnm) {i : Nat} (hi : i < 10) : f_X7_numberOf nums (nI i) = mNum i := by
  rw [number_nI hi]
  exact h.2.2.2.2.2.2.1 i hi
theorem x_season (h : RSu P B Q nums bNames pNames fBoats nB nP mPpl mBts mNum mNam mFst mBnm) {n l : Nat} (hn : n < 2 ^ 31) (hl : mNum 0 = nI l) (h1 : 1 ≤ l) (h2 : l ≤ 100) : f_X10_seasonOn nums (nI n) = nI (n / l % 4) := by
  unfold f_X10_seasonOn
  have e : f_X7_numberOf nums 0 = nI l := (su_num h (i := 0) (by decide)).trans hl
  rw [e, if_pos (show (1 : Int32) ≤ nI l from nI_le (a := 1) h1 (by omega)), pk_div hn (by omega) (by omega), show (4 : Int32) = nI 4 from rfl]
  exact floorMod_nI (Nat.lt_of_le_of_lt (Nat.div_le_self _ _) hn) (by decide) (by decide)
theorem eq_needOf (h : RSu P B Q nums bNames pNames fBoats nB nP mPpl mBts mNum mNam mFst mBnm) {n : Nat} (hn : n < 2 ^ 31) (b : Int32) : f_X10_needOf nums nP (nI n) b = f_X12_needOn mPpl mNum (nI n) b := by
  obtain ⟨l, hl, h1, h2⟩ := su_long h
  have hs : n / l % 4 < 4 := Nat.mod_lt _ (by decide)
  have e1 : f_X7_numberOf nums (1 + f_X10_seasonOn nums (nI n)) = mNum (1 + n / l % 4) := by
    rw [x_season h hn hl h1 h2, show (1 : Int32) = nI 1 from rfl, nI_add]
    exact su_num h (by omega)
  have e5 : f_X7_numberOf nums 5 = mNum 5 := su_num h (i := 5) (by decide)
  have e6 : f_X7_numberOf nums 6 = mNum 6 := su_num h (i := 6) (by decide)
  have e2 : f_X7_people nP = mPpl := by
    obtain ⟨a, b, -⟩ := h
    exact a.trans b.symm
  have e3 : (1 + (nI n / mNum 0 - nI n / mNum 0 / 4 * 4)).toNatClampNeg = 1 + n / l % 4 := by
    rw [hl, pk_div hn (by omega) (by omega), show (4 : Int32) = nI 4 from rfl, pk_rem (Nat.lt_of_le_of_lt (Nat.div_le_self _ _) hn) (by decide) (by decide), show (1 : Int32) = nI 1 from rfl, nI_add, nI_clamp (by omega)]
  unfold f_X10_needOf f_X12_needOn
  rw [e1, e2, e3, e5, e6]
  generalize (mNum (1 + n / l % 4) * mPpl + 99) / 100 - mNum 5 * b = z
  by_cases q : z < mNum 6
  · rw [if_pos q, if_neg (Int32.not_le.mpr q)]
  · rw [if_neg q, if_pos (Int32.not_lt.mp q)]
end NE
