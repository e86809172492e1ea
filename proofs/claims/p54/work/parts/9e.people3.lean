/-! all the people -/
section PH
variable {E : Int32} {n : Nat} {tp mTape : Nat → Int32} {u : Nat → Nat} {s sB : TT} {mErr mRa mVal mLet mFin mNb mNp : Int32} {mWd : Int64} {mnNum mnNam mnBo mnBn bn bo nam : Nat → Int32} {B : Nat}
variable {pk pst pe dnB dnP : Int32} {dbNames dpNames dfBoats : Nat → Int32}
theorem x33_eq {np : Int32} (h : S_X12_readAll_30 (nI n) mErr mRa mWd mVal mLet mFin mNp mNb mTape mnNum mnNam mnBo mnBn = st11 s np bo nam) : X_X12_readAll_33 (nI n) mErr mRa mWd mVal mLet mFin mNp mNb mTape mnNum mnNam mnBo mnBn = whl_ (T_X12_readAll_33 (nI n) mErr mRa mWd mVal mLet mFin mNb mTape mnNum mnBn) 23 (st11 s np bo nam) := by
  unfold X_X12_readAll_33
  rw [eta11 (S_X12_readAll_30 (nI n) mErr mRa mWd mVal mLet mFin mNp mNb mTape mnNum mnNam mnBo mnBn), h]
def PO (B : Nat) (E : Int32) (n : Nat) (tp : Nat → Int32) (F : Bool × (Nat → Int32) × Int32 × (Nat → Int32) × TC) (p : Nat) (s : TT) (bo nam : Nat → Int32) : Prop := (F.1 = true ∧ 2 ≤ p ∧ p ≤ 20 ∧ PS B E n tp p F.2 s bo nam) ∨ (F.1 = false ∧ PD F.2.2.2.2.2.2 s)
theorem people_all (hc : CH n tp mTape u) (hn : n ≤ 800) (hB : B ≤ 6) (hb : dnB = nI B) (hbn : ∀ i, i < B → dbNames i = bn i) (hp : dnP = nI 0) (hX : (X_X12_readAll_8 (nI n) mErr mRa mWd mVal mLet mFin mNb mTape mnNum mnBn) = st10 sB (nI B) bn) (hm : mNp = nI 0) (h : PL E n tp (pe, pk, pst) sB) : ∃ s' p' bo' nam', X_X12_readAll_33 (nI n) mErr mRa mWd mVal mLet mFin mNp mNb mTape mnNum mnNam mnBo mnBn = st11 s' (nI p') bo' nam' ∧ PO B E n tp (f_X4_readPeople pk pst pe tp (nI n) dbNames dpNames dfBoats dnB dnP) p' s' bo' nam' := by
  have f0 : fst_ (fun k => E_X4_readPeople_2 pk pst pe tp (nI n) dbNames dpNames dfBoats dnB dnP k) 0 = none := fst_no (fun j hj => absurd hj (Nat.not_lt_zero j))
  have l0 : L_X4_readPeople_2 pk pst pe tp (nI n) dbNames dpNames dfBoats dnB dnP 0 = (dfBoats, dnP, dpNames, pe, pk, pst) := by unfold L_X4_readPeople_2; exact iter_z _ _
  have b0 : PS B E n tp 0 (dfBoats, dnP, dpNames, pe, pk, pst) sB mnBo mnNam := ⟨hp, h, fun i hi => absurd hi (Nat.not_lt_zero i)⟩
  subst hm
  rcases two_step (bo := mnBo) (nam := mnNam) hc hn hB hb hbn (show 0 < 2 by decide) f0 l0 b0 with ⟨sn1, s1, bo1, nam1, e1, f1, l1, b1⟩ | ⟨s1, e1, g1, d1⟩
  · have q26 := (s26_eq hX).trans e1
    rcases two_step hc hn hB hb hbn (show 1 < 2 by decide) f1 l1 b1 with ⟨sn2, s2, bo2, nam2, e2, f2, l2, b2⟩ | ⟨s2, e2, g2, d2⟩
    · have q30 := (s30_eq hX q26).trans e2
      obtain ⟨s', p', bo', nam', x1, x2, x3, x4⟩ := people_from hc hn hB hb hbn hX 18 2 sn2 s2 bo2 nam2 (by decide) (by decide) f2 l2 b2
      refine ⟨s', p', bo', nam', (x33_eq q30).trans x1, ?_⟩
      rcases x4 with ⟨y1, y2⟩ | ⟨y1, y2⟩
      · exact Or.inl ⟨y1, x3, x2, y2⟩
      · exact Or.inr ⟨y1, y2⟩
    · have q30 := (s30_eq hX q26).trans e2
      exact ⟨s2, 1, bo1, nam1, (x33_eq q30).trans (whl_o (T33_dead hX d2 _ _ _)), Or.inr ⟨g2, d2⟩⟩
  · have q26 := (s26_eq hX).trans e1
    have q30 := (s30_eq hX q26).trans (rp_dead d1 _ _ _ _ _)
    exact ⟨s1, 0, mnBo, mnNam, (x33_eq q30).trans (whl_o (T33_dead hX d1 _ _ _)), Or.inr ⟨g1, d1⟩⟩
theorem people_dead {e : Int32} (h : PD e sB) (hX : (X_X12_readAll_8 (nI n) mErr mRa mWd mVal mLet mFin mNb mTape mnNum mnBn) = st10 sB (nI B) bn) : X_X12_readAll_33 (nI n) mErr mRa mWd mVal mLet mFin mNp mNb mTape mnNum mnNam mnBo mnBn = st11 sB mNp mnBo mnNam := by
  have q26 := (s26_eq (mNp := mNp) (mnNam := mnNam) (mnBo := mnBo) hX).trans (rp_dead h mNp (nI B) mnNam mnBo bn)
  have q30 := (s30_eq hX q26).trans (rp_dead h _ _ _ _ _)
  exact (x33_eq q30).trans (whl_o (T33_dead hX h _ _ _))
end PH
