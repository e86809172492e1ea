/-! the reference's loop of the people -/
section PT
variable {E : Int32} {n : Nat} {tp mTape : Nat → Int32} {u : Nat → Nat} {s sB : TT} {mErr mRa mVal mLet mFin mNb : Int32} {mWd : Int64} {mnNum mnBn bn bo nam : Nat → Int32} {B k : Nat}
theorem eta11 (t : T11) : (t.1, t.2.1, t.2.2.1, t.2.2.2.1, t.2.2.2.2.1, t.2.2.2.2.2.1, t.2.2.2.2.2.2.1, t.2.2.2.2.2.2.2.1, t.2.2.2.2.2.2.2.2.1, t.2.2.2.2.2.2.2.2.2.1, t.2.2.2.2.2.2.2.2.2.2) = t := by
  obtain ⟨a, b, k, l, m, r, st, v, w, z, y⟩ := t
  rfl
theorem T33_eq (hX : (X_X12_readAll_8 (nI n) mErr mRa mWd mVal mLet mFin mNb mTape mnNum mnBn) = st10 sB (nI B) bn) (s : TT) (np : Int32) (bo nam : Nat → Int32) : (T_X12_readAll_33 (nI n) mErr mRa mWd mVal mLet mFin mNb mTape mnNum mnBn) (st11 s np bo nam) = bif tb s.2.1 then (if s.2.2.1 = 0 then .inr (st11 s np bo nam) else .inl (bif tb (pz4 n mTape np (nI B) nam bn s).2.1 then st11 (pz4 n mTape np (nI B) nam bn s) (np + 1) (upd bo np.toNatClampNeg (jzz n mTape (nI B) bn (pz2 n mTape np nam s)).1) (upd nam np.toNatClampNeg (pz1 n mTape np s).2.2.2.1) else st11 (pz4 n mTape np (nI B) nam bn s) np bo nam)) else .inr (st11 s np bo nam) := by
  have e : S_X12_readAll_48 (nI n) mErr mRa mWd mVal mLet mFin mNb mTape mnNum mnBn (st11 s np bo nam) = f_X12_readPerson (nI n) s.1 s.2.2.2.2.1 s.2.2.2.2.2.1 s.2.2.1 s.2.2.2.2.2.2.2 s.2.2.2.2.2.2.1 s.2.2.2.1 s.2.1 np (nI B) mTape nam bo bn := by
    unfold S_X12_readAll_48
    rw [hX]
    unfold st11 st10
    dsimp only
  unfold T_X12_readAll_33
  rw [eta11 (S_X12_readAll_48 (nI n) mErr mRa mWd mVal mLet mFin mNb mTape mnNum mnBn (st11 s np bo nam)), eta11 (st11 s np bo nam), e, readPerson_eq]
  unfold st11
  dsimp only
end PT
