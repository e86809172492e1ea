/-! one token on both sides -/
def TK (n : Nat) (tp : Nat → Int32) (pk pst pe mKi mSt mRa : Int32) (mWd : Int64) (mVal mLet : Int32) : Prop :=
  (∃ en, pe = nI en ∧ en ≤ n) ∧ (mSt = pst ∧ ¬ pst = -2) ∧ mRa = pe ∧ (pk = 0 ↔ mKi = 0) ∧ (pk = 2 ↔ mKi = 3) ∧ (pk = 3 ↔ mKi = 4) ∧
  (mKi = 3 → f_X4_digits pst pe tp (nI n) = mVal ∧ vp_in mVal 1000) ∧
  (∀ x, x < 10 → f_X4_isKeyword pk pst pe tp (nI n) x = (decide (mKi = 2) && decide (mWd = Kx x))) ∧
  f_X4_isName pk pst pe tp (nI n) = decide (mKi = 1) ∧ (mKi = 1 → f_X4_letters pst pe tp (nI n) = mLet ∧ vp_in mLet (2 ^ 30))
section NX
variable {n : Nat} {tp mTape : Nat → Int32} {u : Nat → Nat}
theorem notKey {pk pst pe : Int32} {tp : Nat → Int32} {tl : Int32} {x : Nat} (h : ¬ pk = 1) : f_X4_isKeyword pk pst pe tp tl x = false := if_neg h
theorem notName {pk pst pe : Int32} {tp : Nat → Int32} {tl : Int32} (h : ¬ pk = 1) : f_X4_isName pk pst pe tp tl = false := if_neg h
/-- a token that is neither word nor number -/
theorem nI_no2 {i : Nat} (h : i ≤ 800) : ¬ nI i = -2 := fun z => by
  have e := congrArg Int32.toInt z
  rw [nI_toInt (by omega)] at e
  have : (-2 : Int32).toInt = -2 := by decide
  omega
theorem TK.other {pk pst pe mKi : Int32} {en : Nat} (hp : ¬ pst = -2) (he : pe = nI en) (hn : en ≤ n) (h : (pk = 0 ∧ mKi = 0) ∨ (pk = 3 ∧ mKi = 4) ∨ (pk = 4 ∧ mKi = 5)) (mWd : Int64) (mVal mLet : Int32) : TK n tp pk pst pe mKi pst pe mWd mVal mLet := by
  have h1 : ¬ pk = 1 := by rcases h with ⟨rfl, _⟩ | ⟨rfl, _⟩ | ⟨rfl, _⟩ <;> decide
  have h2 : ¬ mKi = 2 := by rcases h with ⟨_, rfl⟩ | ⟨_, rfl⟩ | ⟨_, rfl⟩ <;> decide
  have h3 : ¬ mKi = 1 := by rcases h with ⟨_, rfl⟩ | ⟨_, rfl⟩ | ⟨_, rfl⟩ <;> decide
  have h4 : ¬ mKi = 3 := by rcases h with ⟨_, rfl⟩ | ⟨_, rfl⟩ | ⟨_, rfl⟩ <;> decide
  refine ⟨⟨en, he, hn⟩, ⟨rfl, hp⟩, rfl, ?_, ?_, ?_, fun z => absurd z h4, fun x _ => ?_, ?_, fun z => absurd z h3⟩
  · rcases h with ⟨rfl, rfl⟩ | ⟨rfl, rfl⟩ | ⟨rfl, rfl⟩ <;> decide
  · rcases h with ⟨rfl, rfl⟩ | ⟨rfl, rfl⟩ | ⟨rfl, rfl⟩ <;> decide
  · rcases h with ⟨rfl, rfl⟩ | ⟨rfl, rfl⟩ | ⟨rfl, rfl⟩ <;> decide
  · rw [notKey h1, decide_eq_false h2]
    rfl
  · rw [notName h1, decide_eq_false h3]
theorem TK.word (h : CH n tp mTape u) (hn : n ≤ 800) {i : Nat} (hi : i ≤ n) (hL : isL n u i = true) (mVal : Int32) : TK n tp 1 (nI i) (nI (eo (isL n u) n i)) (f_X12_nextWord (nI n) (nI i) (nI i) mTape).1 (nI i) (f_X12_nextWord (nI n) (nI i) (nI i) mTape).2.2.1 (f_X12_nextWord (nI n) (nI i) (nI i) mTape).2.2.2 mVal (f_X12_nextWord (nI n) (nI i) (nI i) mTape).2.1 := by
  have hle := eo_le (T := isL n u) hi
  have hge := eo_ge (isL n u) n i
  have hin : ∀ j, i ≤ j → j < eo (isL n u) n i → isL n u j = true := fun j h1 h2 => eo_in h1 h2
  have hX := m_word h hn hi
  have r := fun x hx => x_reads h hn hge hle hin (x := x) hx
  have ra := x_any h hn hge hle hin
  have rl := x_lettersT h hn hge hle hin
  have hv : ∀ k, k < eo (isL n u) n i - i → lv u i k < 32 := fun k hk => by
    have := isL_lt (hin (i + k) (by omega) (by omega))
    unfold lv
    omega
  generalize eo (isL n u) n i = e at *
  have es : (nI e - nI i : Int32) = nI (e - i) := pk_sub (by omega)
  have f1 : (f_X12_nextWord (nI n) (nI i) (nI i) mTape).2.2.1 = nI e := by
    show (X_X12_nextWord_10 (nI n) (nI i) (nI i) mTape).2.1 = _
    rw [hX]
    exact (rfl : nI e = nI e)
  have f2 : (f_X12_nextWord (nI n) (nI i) (nI i) mTape).2.1 = nI (LTv (lv u i) (e - i)) := by
    show (X_X12_nextWord_10 (nI n) (nI i) (nI i) mTape).1 = _
    rw [hX]
    exact (rfl : nI (LTv (lv u i) (e - i)) = _)
  have f3 : (f_X12_nextWord (nI n) (nI i) (nI i) mTape).2.2.2 = if e - i ≤ 8 then lN (WF (lv u i) (e - i)) else 0 := by
    show (X_X12_nextWord_10 (nI n) (nI i) (nI i) mTape).2.2 = _
    rw [hX]
    exact (rfl : (if e - i ≤ 8 then lN (WF (lv u i) (e - i)) else 0) = _)
  have f0 : (f_X12_nextWord (nI n) (nI i) (nI i) mTape).1 = if e - i ≤ 8 then (bif f_X12_isKey (lN (WF (lv u i) (e - i))) then 2 else if 7 ≤ e - i then 5 else 1) else 5 := by
    show J_X12_nextWord_121 (nI n) (nI i) (nI i) mTape = _
    unfold J_X12_nextWord_121
    rw [show (X_X12_nextWord_10 (nI n) (nI i) (nI i) mTape).2.1 = nI e from f1, show (X_X12_nextWord_10 (nI n) (nI i) (nI i) mTape).2.2 = _ from f3, es]
    by_cases q : e - i ≤ 8
    · rw [if_neg (show ¬ (9 : Int32) ≤ nI (e - i) from nI_ge (b := 9) (by omega) (by decide)), if_pos q, if_pos q]
      by_cases q7 : 7 ≤ e - i
      · rw [if_pos (show (7 : Int32) ≤ nI (e - i) from nI_le (a := 7) q7 (by omega)), if_pos q7]
      · rw [if_neg (show ¬ (7 : Int32) ≤ nI (e - i) from nI_ge (b := 7) (by omega) (by decide)), if_neg q7]
    · rw [if_pos (show (9 : Int32) ≤ nI (e - i) from nI_le (a := 9) (by omega) (by omega)), if_neg q, if_pos (show (7 : Int32) ≤ nI (e - i) from nI_le (a := 7) (by omega) (by omega))]
  rw [f0, f1, f2, f3]
  have m3 : ∀ b : Bool, ((bif b then 2 else if 7 ≤ e - i then 5 else 1 : Int32) = 2 ↔ b = true) ∧ ((bif b then 2 else if 7 ≤ e - i then 5 else 1 : Int32) = 1 ↔ b = false ∧ e - i < 7) ∧ ¬ (bif b then 2 else if 7 ≤ e - i then 5 else 1 : Int32) = 0 ∧ ¬ (bif b then 2 else if 7 ≤ e - i then 5 else 1 : Int32) = 3 ∧ ¬ (bif b then 2 else if 7 ≤ e - i then 5 else 1 : Int32) = 4 := fun b => by
    cases b
    · show ((if 7 ≤ e - i then 5 else 1 : Int32) = 2 ↔ false = true) ∧ ((if 7 ≤ e - i then 5 else 1 : Int32) = 1 ↔ false = false ∧ e - i < 7) ∧ ¬ (if 7 ≤ e - i then 5 else 1 : Int32) = 0 ∧ ¬ (if 7 ≤ e - i then 5 else 1 : Int32) = 3 ∧ ¬ (if 7 ≤ e - i then 5 else 1 : Int32) = 4
      by_cases q : 7 ≤ e - i
      · simp only [if_pos q]
        refine ⟨by decide, ⟨fun z => absurd z (by decide), fun z => absurd z.2 (by omega)⟩, by decide, by decide, by decide⟩
      · simp only [if_neg q]
        refine ⟨by decide, ⟨fun _ => ⟨trivial, by omega⟩, fun _ => trivial⟩, by decide, by decide, by decide⟩
    · exact ⟨⟨fun _ => rfl, fun _ => rfl⟩, ⟨fun z => absurd (show (2 : Int32) = 1 from z) (by decide), fun z => absurd z.1 (by decide)⟩, show ¬ (2 : Int32) = 0 by decide, show ¬ (2 : Int32) = 3 by decide, show ¬ (2 : Int32) = 4 by decide⟩
  have key : ∀ x, x < 10 → f_X4_isKeyword 1 (nI i) (nI e) tp (nI n) x = (decide (e - i ≤ 8) && decide (lN (WF (lv u i) (e - i)) = Kx x)) := fun x hx => by
    unfold f_X4_isKeyword
    rw [if_pos rfl, r x hx]
    cases (decide (e - i ≤ 8) && decide (lN (WF (lv u i) (e - i)) = Kx x)) <;> rfl
  have nam : f_X4_isName 1 (nI i) (nI e) tp (nI n) = if 6 < e - i then false else !(decide (e - i ≤ 8) && f_X12_isKey (lN (WF (lv u i) (e - i)))) := by
    unfold f_X4_isName
    rw [if_pos rfl, es, ra]
    by_cases q6 : 6 < e - i
    · rw [if_pos (show (6 : Int32) < nI (e - i) from nI_lt (a := 6) q6 (by omega)), if_pos q6]
    · rw [if_neg (show ¬ (6 : Int32) < nI (e - i) from fun z => q6 ((nI_ltI (a := 6) (by decide) (by omega)).mp z)), if_neg q6]
      cases (decide (e - i ≤ 8) && f_X12_isKey (lN (WF (lv u i) (e - i)))) <;> rfl
  have isk : ∀ x, x < 10 → lN (WF (lv u i) (e - i)) = Kx x → f_X12_isKey (lN (WF (lv u i) (e - i))) = true := fun x hx z => by
    have : ∀ x, x < 10 → f_X12_isKey (Kx x) = true := by decide +kernel
    rw [z]
    exact this x hx
  by_cases q : e - i ≤ 8
  · simp only [if_pos q]
    obtain ⟨g1, g2, g3, g4, g5⟩ := m3 (f_X12_isKey (lN (WF (lv u i) (e - i))))
    refine ⟨⟨e, rfl, hle⟩, ⟨rfl, nI_no2 (by omega)⟩, rfl, ⟨fun z => absurd z (by decide), fun z => absurd z g3⟩, ⟨fun z => absurd z (by decide), fun z => absurd z g4⟩, ⟨fun z => absurd z (by decide), fun z => absurd z g5⟩, fun z => absurd z g4, fun x hx => ?_, ?_, fun _ => ⟨rl, vp_in_nI (LTv_lt hv) (by decide)⟩⟩
    · rw [key x hx, decide_eq_true q, Bool.true_and]
      by_cases w : lN (WF (lv u i) (e - i)) = Kx x
      · rw [decide_eq_true w, decide_eq_true (g1.mpr (isk x hx w))]
        rfl
      · rw [decide_eq_false w, Bool.and_false]
    · rw [nam, decide_eq_true q, Bool.true_and]
      by_cases q6 : 6 < e - i
      · rw [if_pos q6, decide_eq_false (fun z => by have := (g2.mp z).2; omega)]
      · rw [if_neg q6]
        cases w : f_X12_isKey (lN (WF (lv u i) (e - i)))
        · rw [w] at g2
          exact (decide_eq_true (g2.mpr ⟨rfl, by omega⟩)).symm
        · rfl
  · simp only [if_neg q]
    refine ⟨⟨e, rfl, hle⟩, ⟨rfl, nI_no2 (by omega)⟩, rfl, by decide, by decide, by decide, fun z => absurd z (by decide), fun x hx => ?_, ?_, fun z => absurd z (by decide)⟩
    · rw [key x hx, decide_eq_false q]
      rfl
    · rw [nam, if_pos (by omega)]
      rfl
theorem TK.int (h : CH n tp mTape u) (hn : n ≤ 800) {i : Nat} (hi : i ≤ n) (mWd : Int64) (mLet : Int32) : TK n tp (if 3 < nI (eo (isD n u) n i) - nI i then 4 else 2) (nI i) (nI (eo (isD n u) n i)) (f_X12_nextInt (nI n) (nI i) (nI i) mTape).1 (nI i) (f_X12_nextInt (nI n) (nI i) (nI i) mTape).2.1 mWd (f_X12_nextInt (nI n) (nI i) (nI i) mTape).2.2 mLet := by
  have hle := eo_le (T := isD n u) hi
  have hge := eo_ge (isD n u) n i
  have hin : ∀ j, i ≤ j → j < eo (isD n u) n i → isD n u j = true := fun j h1 h2 => eo_in h1 h2
  have hX := m_int h hn hi
  have rd := x_digitsT h hn hge hle hin
  have hv : ∀ k, k < eo (isD n u) n i - i → dv u i k < 10 := fun k hk => by
    have := isD_lt (hin (i + k) (by omega) (by omega))
    unfold dv
    omega
  generalize eo (isD n u) n i = e at *
  have es : (nI e - nI i : Int32) = nI (e - i) := pk_sub (by omega)
  have f1 : (f_X12_nextInt (nI n) (nI i) (nI i) mTape).2.1 = nI e := by
    show (X_X12_nextInt_5 (nI n) (nI i) (nI i) mTape).1 = _
    rw [hX]
    exact (rfl : nI e = nI e)
  have f2 : (f_X12_nextInt (nI n) (nI i) (nI i) mTape).2.2 = nI (DV (dv u i) (min (e - i) 3)) := by
    show (X_X12_nextInt_5 (nI n) (nI i) (nI i) mTape).2 = _
    rw [hX]
    exact (rfl : nI (DV (dv u i) (min (e - i) 3)) = _)
  have f0 : (f_X12_nextInt (nI n) (nI i) (nI i) mTape).1 = if 4 ≤ e - i then 5 else 3 := by
    show J_X12_nextInt_84 (nI n) (nI i) (nI i) mTape = _
    unfold J_X12_nextInt_84
    rw [show (X_X12_nextInt_5 (nI n) (nI i) (nI i) mTape).1 = nI e from f1, es]
    by_cases q : 4 ≤ e - i
    · rw [if_pos (show (4 : Int32) ≤ nI (e - i) from nI_le (a := 4) q (by omega)), if_pos q]
    · rw [if_neg (show ¬ (4 : Int32) ≤ nI (e - i) from nI_ge (b := 4) (by omega) (by decide)), if_neg q]
  rw [f0, f1, f2, es]
  by_cases q : 4 ≤ e - i
  · rw [if_pos q, if_pos (show (3 : Int32) < nI (e - i) from nI_lt (a := 3) (by omega) (by omega))]
    exact TK.other (nI_no2 (by omega)) rfl hle (Or.inr (Or.inr ⟨rfl, rfl⟩)) _ _ _
  · rw [if_neg q, if_neg (show ¬ (3 : Int32) < nI (e - i) from fun z => q ((nI_ltI (a := 3) (by decide) (by omega)).mp z)), Nat.min_eq_left (by omega)]
    refine ⟨⟨e, rfl, hle⟩, ⟨rfl, nI_no2 (by omega)⟩, rfl, by decide, by decide, by decide, fun _ => ⟨rd, ?_⟩, fun x _ => ?_, ?_, fun z => absurd z (by decide)⟩
    · refine vp_in_nI (Nat.lt_of_lt_of_le (DV_lt hv) (Nat.le_trans (Nat.pow_le_pow_right (by decide) (show e - i ≤ 3 by omega)) (by decide))) (by decide)
    · rw [notKey (by decide)]
      rfl
    · rw [notName (by decide)]
      rfl
/-- one token on -/
theorem tk_next (h : CH n tp mTape u) (hn : n ≤ 800) {pe : Int32} (hpe : ∃ i, pe = nI i ∧ i ≤ n) (mWd : Int64) (mVal mLet : Int32) : TK n tp (f_X4_advance pe tp (nI n)).2.1 (f_X4_advance pe tp (nI n)).2.2 (f_X4_advance pe tp (nI n)).1 (f_X12_next (nI n) pe mWd mVal mLet mTape).1 (f_X12_next (nI n) pe mWd mVal mLet mTape).2.2.2.1 (f_X12_next (nI n) pe mWd mVal mLet mTape).2.2.1 (f_X12_next (nI n) pe mWd mVal mLet mTape).2.2.2.2.2 (f_X12_next (nI n) pe mWd mVal mLet mTape).2.2.2.2.1 (f_X12_next (nI n) pe mWd mVal mLet mTape).2.1 := by
  obtain ⟨i, rfl, hi⟩ := hpe
  have hs := eo_le (T := isS n u) hi
  have s1 := x_skip h hn hi
  have s2 := m_skip h hn hi
  generalize eo (isS n u) n i = s at *
  have c1 := x_isL h hn (j := s) (by omega)
  have c2 := x_isD h hn (j := s) (by omega)
  have d1 := m_isL h hn (j := s) (by omega)
  have d2 := m_isD h hn (j := s) (by omega)
  unfold f_X4_advance f_X12_next
  rw [s1, s2, c1, c2, d1, d2]
  by_cases qL : isL n u s = true
  · have hlt := (isL_lt qL).1
    rw [qL]
    simp only [cond_true]
    rw [if_neg (show ¬ nI s = nI n from fun z => by have := (nI_eq (by omega) (by omega)).mp z; omega)]
    show TK n tp 1 (nI s) (X_X4_advance_77 (nI i) tp (nI n)) (f_X12_nextWord (nI n) (X_X12_next_0 (nI n) (nI i) mTape) (X_X12_next_0 (nI n) (nI i) mTape) mTape).1 (nI s) (f_X12_nextWord (nI n) (X_X12_next_0 (nI n) (nI i) mTape) (X_X12_next_0 (nI n) (nI i) mTape) mTape).2.2.1 (f_X12_nextWord (nI n) (X_X12_next_0 (nI n) (nI i) mTape) (X_X12_next_0 (nI n) (nI i) mTape) mTape).2.2.2 mVal (f_X12_nextWord (nI n) (X_X12_next_0 (nI n) (nI i) mTape) (X_X12_next_0 (nI n) (nI i) mTape) mTape).2.1
    unfold X_X4_advance_77
    rw [s1, s2, x_word h hn hs]
    exact TK.word h hn hs qL mVal
  · rw [Bool.not_eq_true] at qL
    rw [qL]
    simp only [cond_false]
    by_cases qD : isD n u s = true
    · have hlt := (isD_lt qD).1
      rw [qD]
      simp only [cond_true]
      rw [if_neg (show ¬ nI s = nI n from fun z => by have := (nI_eq (by omega) (by omega)).mp z; omega)]
      show TK n tp (if 3 < X_X4_advance_146 (nI i) tp (nI n) - X_X4_advance_8 (nI i) tp (nI n) then 4 else 2) (nI s) (X_X4_advance_146 (nI i) tp (nI n)) (f_X12_nextInt (nI n) (X_X12_next_0 (nI n) (nI i) mTape) (X_X12_next_0 (nI n) (nI i) mTape) mTape).1 (nI s) (f_X12_nextInt (nI n) (X_X12_next_0 (nI n) (nI i) mTape) (X_X12_next_0 (nI n) (nI i) mTape) mTape).2.1 mWd (f_X12_nextInt (nI n) (X_X12_next_0 (nI n) (nI i) mTape) (X_X12_next_0 (nI n) (nI i) mTape) mTape).2.2 mLet
      unfold X_X4_advance_146
      rw [s1, s2, x_int h hn hs]
      exact TK.int h hn hs mWd mLet
    · rw [Bool.not_eq_true] at qD
      rw [qD]
      simp only [cond_false]
      by_cases q : s < n
      · rw [if_pos (nI_lt q (by omega)), if_neg (show ¬ nI s = nI n from fun z => by have := (nI_eq (by omega) (by omega)).mp z; omega)]
        show TK n tp (if f_X1_at 800 tp (nI n) (X_X4_advance_8 (nI i) tp (nI n)) = 59 then 3 else 4) (nI s) (nI s + 1) (if mTape (X_X12_next_0 (nI n) (nI i) mTape).toNatClampNeg = 59 then 4 else 5) (nI s) (nI s + 1) mWd mVal mLet
        obtain ⟨-, h2, h3⟩ := h s q
        rw [s1, s2, h.at' hn q, nI_clamp (by omega), h2, nI_1]
        by_cases w : u s = 59
        · rw [if_pos (show nI (u s) = 59 by rw [w]; rfl), if_pos (show byt (u s) = 59 from (byt_eq (c := 59) h3 (by decide)).mpr w)]
          exact TK.other (nI_no2 (by omega)) rfl (by omega) (Or.inr (Or.inl ⟨rfl, rfl⟩)) _ _ _
        · rw [if_neg (show ¬ nI (u s) = 59 from fun z => w ((nI_eq (b := 59) (by omega) (by decide)).mp z)), if_neg (show ¬ byt (u s) = 59 from fun z => w ((byt_eq (c := 59) h3 (by decide)).mp z))]
          exact TK.other (nI_no2 (by omega)) rfl (by omega) (Or.inr (Or.inr ⟨rfl, rfl⟩)) _ _ _
      · rw [if_neg (show ¬ nI s < nI n from fun z => q ((nI_ltI (by omega) (by omega)).mp z)), if_pos (show nI s = nI n by rw [show s = n by omega])]
        exact TK.other (nI_no2 (by omega)) rfl hs (Or.inl ⟨rfl, rfl⟩) _ _ _
end NX
