/-! the first two people, as readAll calls for them -/
section PG
variable {n : Nat} {mTape : Nat → Int32} {s sB : TT} {mErr mRa mVal mLet mFin mNb mNp np : Int32} {mWd : Int64} {mnNum mnNam mnBo mnBn bn bo nam : Nat → Int32} {B : Nat}
theorem s26_eq (hX : (X_X12_readAll_8 (nI n) mErr mRa mWd mVal mLet mFin mNb mTape mnNum mnBn) = st10 sB (nI B) bn) : S_X12_readAll_26 (nI n) mErr mRa mWd mVal mLet mFin mNp mNb mTape mnNum mnNam mnBo mnBn = f_X12_readPerson (nI n) sB.1 sB.2.2.2.2.1 sB.2.2.2.2.2.1 sB.2.2.1 sB.2.2.2.2.2.2.2 sB.2.2.2.2.2.2.1 sB.2.2.2.1 sB.2.1 mNp (nI B) mTape mnNam mnBo bn := by
  unfold S_X12_readAll_26
  rw [hX]
  unfold st10
  dsimp only
theorem s30_eq (hX : (X_X12_readAll_8 (nI n) mErr mRa mWd mVal mLet mFin mNb mTape mnNum mnBn) = st10 sB (nI B) bn) (h : S_X12_readAll_26 (nI n) mErr mRa mWd mVal mLet mFin mNp mNb mTape mnNum mnNam mnBo mnBn = st11 s np bo nam) : S_X12_readAll_30 (nI n) mErr mRa mWd mVal mLet mFin mNp mNb mTape mnNum mnNam mnBo mnBn = f_X12_readPerson (nI n) s.1 s.2.2.2.2.1 s.2.2.2.2.2.1 s.2.2.1 s.2.2.2.2.2.2.2 s.2.2.2.2.2.2.1 s.2.2.2.1 s.2.1 np (nI B) mTape nam bo bn := by
  unfold S_X12_readAll_30
  rw [hX, h]
  unfold st10 st11
  dsimp only
end PG
