/-! the whole text on both sides -/
section RA
variable {n : Nat} {tp mTape : Nat → Int32} {u : Nat → Nat} {mVal mLet : Int32} {mWd : Int64} {mnNum mnNam mnBo mnBn dnums dbNames dpNames dfBoats : Nat → Int32}
/-- the reference behind its first token -/
noncomputable def s0 (n : Nat) (mTape : Nat → Int32) (mWd : Int64) (mVal mLet : Int32) : TT := (-2, 1, (f_X12_next (nI n) 0 mWd mVal mLet mTape).1, (f_X12_next (nI n) 0 mWd mVal mLet mTape).2.1, (f_X12_next (nI n) 0 mWd mVal mLet mTape).2.2.1, (f_X12_next (nI n) 0 mWd mVal mLet mTape).2.2.2.1, (f_X12_next (nI n) 0 mWd mVal mLet mTape).2.2.2.2.1, (f_X12_next (nI n) 0 mWd mVal mLet mTape).2.2.2.2.2)
abbrev T9 := Int32 × Int32 × Int32 × Int32 × Int32 × Int32 × Int32 × Int64 × (Nat → Int32)
def st9 (s : TT) (f : Nat → Int32) : T9 := (s.1, s.2.1, s.2.2.1, s.2.2.2.1, s.2.2.2.2.1, s.2.2.2.2.2.1, s.2.2.2.2.2.2.1, s.2.2.2.2.2.2.2, f)
theorem s5_eq : S_X12_readAll_5 (nI n) (-2) 0 mWd mVal mLet 1 mTape mnNum = st9 (rz18 n mTape (s0 n mTape mWd mVal mLet)) (nz n mTape (s0 n mTape mWd mVal mLet) mnNum) := by
  unfold S_X12_readAll_5 S_X12_readAll_1
  exact readNumbers_eq (s0 n mTape mWd mVal mLet) mnNum
theorem x8_eq : X_X12_readAll_8 (nI n) (-2) 0 mWd mVal mLet 1 0 mTape mnNum mnBn = whl_ (T_X12_readAll_8 (nI n) mTape) 9 (st10 (rz18 n mTape (s0 n mTape mWd mVal mLet)) (nI 0) mnBn) := by
  unfold X_X12_readAll_8
  rw [s5_eq, show nI 0 = (0 : Int32) by decide]
  unfold st9 st10
  dsimp only
theorem readAll_eq {sB s : TT} {B p : Nat} {bn bo nam : Nat → Int32} (h8 : X_X12_readAll_8 (nI n) (-2) 0 mWd mVal mLet 1 0 mTape mnNum mnBn = st10 sB (nI B) bn) (h33 : X_X12_readAll_33 (nI n) (-2) 0 mWd mVal mLet 1 0 0 mTape mnNum mnNam mnBo mnBn = st11 s (nI p) bo nam) : f_X12_readAll (nI n) (-2) 0 mWd mVal mLet 1 0 0 mTape mnNum mnNam mnBo mnBn = (s.1, s.2.1, s.2.2.1, s.2.2.2.1, nI B, nI p, s.2.2.2.2.1, s.2.2.2.2.2.1, s.2.2.2.2.2.2.1, s.2.2.2.2.2.2.2, bn, bo, nam, nz n mTape (s0 n mTape mWd mVal mLet) mnNum) := by
  unfold f_X12_readAll
  rw [h8, h33, s5_eq]
  unfold st9 st10 st11
  dsimp only
/-- what both have read, or where both failed -/
def RD (M : Int32 × Int32 × Int32 × Int32 × Int32 × Int32 × Int32 × Int32 × Int32 × Int64 × (Nat → Int32) × (Nat → Int32) × (Nat → Int32) × (Nat → Int32)) (C : Int32 × (Nat → Int32) × (Nat → Int32) × Int32 × Int32 × (Nat → Int32) × (Nat → Int32) × Int32 × Int32 × Int32) : Prop :=
  (C.1 = -2 ∧ M.1 = -2 ∧ M.2.1 = 1 ∧ ∃ B P, B ≤ 6 ∧ 2 ≤ P ∧ P ≤ 20 ∧ M.2.2.2.2.1 = nI B ∧ M.2.2.2.2.2.1 = nI P ∧ C.2.2.2.1 = nI B ∧ C.2.2.2.2.1 = nI P ∧
    (∀ i, i < B → C.2.1 i = M.2.2.2.2.2.2.2.2.2.2.1 i ∧ vp_in (M.2.2.2.2.2.2.2.2.2.2.1 i) (2 ^ 30)) ∧
    (∀ i, i < P → C.2.2.1 i = M.2.2.2.2.2.2.2.2.2.2.2.1 i ∧ C.2.2.2.2.2.2.1 i = M.2.2.2.2.2.2.2.2.2.2.2.2.1 i ∧ vp_in (M.2.2.2.2.2.2.2.2.2.2.2.2.1 i) (2 ^ 30) ∧ (M.2.2.2.2.2.2.2.2.2.2.2.1 i = -2 ∨ vp_in (M.2.2.2.2.2.2.2.2.2.2.2.1 i) B)) ∧
    (∀ i, i < 10 → C.2.2.2.2.2.1 i = M.2.2.2.2.2.2.2.2.2.2.2.2.2 i) ∧ NR M.2.2.2.2.2.2.2.2.2.2.2.2.2) ∨
  (¬ C.1 = -2 ∧ M.1 = C.1 ∧ M.2.1 = 0)
theorem NR_any {f g : Nat → Int32} (h : ∀ i, i < 10 → f i = g i) (hf : NR f) : NR g := by
  obtain ⟨⟨a1, a2⟩, b, c, ⟨d1, d2⟩, e, f8, f9⟩ := hf
  rw [h 0 (by decide)] at a1 a2
  rw [h 5 (by decide)] at c
  rw [h 6 (by decide)] at d1 d2
  rw [h 7 (by decide)] at e
  rw [h 8 (by decide)] at f8
  rw [h 9 (by decide)] at f9
  exact ⟨⟨a1, a2⟩, fun i hi => by rw [← h (1 + i) (by omega)]; exact b i hi, c, ⟨d1, d2⟩, e, f8, f9⟩
theorem rd_bad {sB : TT} {B P : Nat} {bn bo nam nu : Nat → Int32} {C : Int32 × (Nat → Int32) × (Nat → Int32) × Int32 × Int32 × (Nat → Int32) × (Nat → Int32) × Int32 × Int32 × Int32} {e : Int32} (h : PD e sB) (hC : C.1 = e) : RD (sB.1, sB.2.1, sB.2.2.1, sB.2.2.2.1, nI B, nI P, sB.2.2.2.2.1, sB.2.2.2.2.2.1, sB.2.2.2.2.2.2.1, sB.2.2.2.2.2.2.2, bn, bo, nam, nu) C := by
  subst hC
  exact Or.inr ⟨h.1.2, h.1.1, h.2⟩
theorem read_all (hc : CH n tp mTape u) (hn : n ≤ 800) : RD (f_X12_readAll (nI n) (-2) 0 mWd mVal mLet 1 0 0 mTape mnNum mnNam mnBo mnBn) (f_X4_readTape tp (nI n) dnums dbNames dpNames dfBoats) := by
  have z2 : S_X4_readTape_4.2 = nI 0 := by unfold S_X4_readTape_4 f_X7_clear; decide
  have z1 : S_X4_readTape_4.1 = nI 0 := by unfold S_X4_readTape_4 f_X7_clear; decide
  have h0 : PL (-2) n tp (S_X4_readTape_13 tp (nI n)) (s0 n mTape mWd mVal mLet) := ⟨rfl, rfl, by
    have t := tk_next hc hn ⟨0, (show (0 : Int32) = nI 0 by decide), Nat.zero_le _⟩ mWd mVal mLet
    exact t⟩
  have t17 : ((S_X4_readTape_17 tp (nI n) dnums).1 = true ∧ (S_X4_readTape_17 tp (nI n) dnums).2.1 = nz n mTape (s0 n mTape mWd mVal mLet) dnums ∧ NR (nz n mTape (s0 n mTape mWd mVal mLet) dnums) ∧ PL (-2) n tp (S_X4_readTape_17 tp (nI n) dnums).2.2 (rz18 n mTape (s0 n mTape mWd mVal mLet))) ∨ ((S_X4_readTape_17 tp (nI n) dnums).1 = false ∧ PD (S_X4_readTape_17 tp (nI n) dnums).2.2.2.2 (rz18 n mTape (s0 n mTape mWd mVal mLet))) := p_numbers hc hn h0 dnums
  rcases t17 with ⟨h17, n17, r17, p17⟩ | ⟨h17, d17⟩
  · have f0 : fst_ (fun k => E_X4_readBoats_2 (S_X4_readTape_17 tp (nI n) dnums).2.2.2.1 (S_X4_readTape_17 tp (nI n) dnums).2.2.2.2 (S_X4_readTape_17 tp (nI n) dnums).2.2.1 tp (nI n) dbNames S_X4_readTape_4.1 k) 0 = none := fst_no (fun j hj => absurd hj (Nat.not_lt_zero j))
    have l0 : L_X4_readBoats_2 (S_X4_readTape_17 tp (nI n) dnums).2.2.2.1 (S_X4_readTape_17 tp (nI n) dnums).2.2.2.2 (S_X4_readTape_17 tp (nI n) dnums).2.2.1 tp (nI n) dbNames S_X4_readTape_4.1 0 = (dbNames, S_X4_readTape_4.1, (S_X4_readTape_17 tp (nI n) dnums).2.2.1, (S_X4_readTape_17 tp (nI n) dnums).2.2.2.1, (S_X4_readTape_17 tp (nI n) dnums).2.2.2.2) := by unfold L_X4_readBoats_2; exact iter_z _ _
    obtain ⟨sB, B, bn, x1, x2, x3⟩ := boats_from (pk := (S_X4_readTape_17 tp (nI n) dnums).2.2.2.1) (pst := (S_X4_readTape_17 tp (nI n) dnums).2.2.2.2) (pe := (S_X4_readTape_17 tp (nI n) dnums).2.2.1) (dbNames := dbNames) (dnB := S_X4_readTape_4.1) hc hn 6 0 _ (rz18 n mTape (s0 n mTape mWd mVal mLet)) mnBn (by decide) f0 l0 ⟨z1, p17, fun i hi => absurd hi (Nat.not_lt_zero i)⟩
    have q8 : X_X12_readAll_8 (nI n) (-2) 0 mWd mVal mLet 1 0 mTape mnNum mnBn = st10 sB (nI B) bn := x8_eq.trans x1
    have t24 : ((S_X4_readTape_24 tp (nI n) dnums dbNames).1 = true ∧ BS (-2) n tp B (S_X4_readTape_24 tp (nI n) dnums dbNames).2 sB bn) ∨ ((S_X4_readTape_24 tp (nI n) dnums dbNames).1 = false ∧ PD (S_X4_readTape_24 tp (nI n) dnums dbNames).2.2.2.2.2 sB) := x3
    rcases t24 with ⟨h24, y1, y2, y3⟩ | ⟨h24, d24⟩
    · obtain ⟨s, p, bo, nam, w1, w2⟩ := people_all (mNp := 0) (mnNam := mnNam) (mnBo := mnBo) (pk := (S_X4_readTape_24 tp (nI n) dnums dbNames).2.2.2.2.1) (pst := (S_X4_readTape_24 tp (nI n) dnums dbNames).2.2.2.2.2) (pe := (S_X4_readTape_24 tp (nI n) dnums dbNames).2.2.2.1) (dnB := (S_X4_readTape_24 tp (nI n) dnums dbNames).2.2.1) (dnP := S_X4_readTape_4.2) (dbNames := (S_X4_readTape_24 tp (nI n) dnums dbNames).2.1) (dpNames := dpNames) (dfBoats := dfBoats) hc hn x2 y1 (fun i hi => (y3 i hi).1) z2 q8 (show (0 : Int32) = nI 0 by decide) y2
      have t31 : PO B (-2) n tp (S_X4_readTape_31 tp (nI n) dnums dbNames dpNames dfBoats) p s bo nam := w2
      rw [readAll_eq q8 w1]
      rcases t31 with ⟨h31, v2, v3, v4, v5, v6⟩ | ⟨h31, d31⟩
      · have hC : f_X4_readTape tp (nI n) dnums dbNames dpNames dfBoats = ((-2), (S_X4_readTape_24 tp (nI n) dnums dbNames).2.1, (S_X4_readTape_31 tp (nI n) dnums dbNames dpNames dfBoats).2.1, (S_X4_readTape_24 tp (nI n) dnums dbNames).2.2.1, (S_X4_readTape_31 tp (nI n) dnums dbNames dpNames dfBoats).2.2.1, (S_X4_readTape_17 tp (nI n) dnums).2.1, (S_X4_readTape_31 tp (nI n) dnums dbNames dpNames dfBoats).2.2.2.1, (S_X4_readTape_31 tp (nI n) dnums dbNames dpNames dfBoats).2.2.2.2.1, (S_X4_readTape_31 tp (nI n) dnums dbNames dpNames dfBoats).2.2.2.2.2.1, (S_X4_readTape_31 tp (nI n) dnums dbNames dpNames dfBoats).2.2.2.2.2.2) := by
          unfold f_X4_readTape
          rw [h17, cond_true, h24, cond_true, h31, cond_true]
        rw [hC]
        refine Or.inl ⟨rfl, v5.1, v5.2.1, B, p, x2, v2, v3, rfl, rfl, y1, v4, y3, v6, fun i hi => ?_, ?_⟩
        · exact (congrFun n17 i).trans (nz_any _ _ _ i hi)
        · exact NR_any (fun i hi => nz_any _ _ _ i hi) r17
      · refine rd_bad d31 ?_
        unfold f_X4_readTape
        rw [h17, cond_true, h24, cond_true, h31, cond_false]
    · rw [readAll_eq (p := 0) q8 (people_dead d24 q8)]
      refine rd_bad d24 ?_
      unfold f_X4_readTape
      rw [h17, cond_true, h24, cond_false]
  · have q8 : X_X12_readAll_8 (nI n) (-2) 0 mWd mVal mLet 1 0 mTape mnNum mnBn = st10 (rz18 n mTape (s0 n mTape mWd mVal mLet)) (nI 0) mnBn := x8_eq.trans (whl_o (T8_dead d17 _ _))
    rw [readAll_eq (p := 0) q8 (people_dead d17 q8)]
    refine rd_bad d17 ?_
    unfold f_X4_readTape
    rw [h17, cond_false]
end RA
