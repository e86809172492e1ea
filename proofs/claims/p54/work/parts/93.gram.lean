/-! the grammar: the reference reads on with a flag, the class leaves at the first fault -/
abbrev TT := Int32 × Int32 × Int32 × Int32 × Int32 × Int32 × Int32 × Int64
abbrev TC := Int32 × Int32 × Int32
/-- the reference takes a token, or fails here -/
noncomputable def tkz (n : Nat) (mTape : Nat → Int32) (s : TT) (z : Bool) : TT := f_X12_takes (nI n) s.1 s.2.2.2.2.1 s.2.2.2.2.2.1 s.2.2.1 s.2.2.2.2.2.2.2 s.2.2.2.2.2.2.1 s.2.2.2.1 s.2.1 mTape z
/-- both read on -/
def PL (E : Int32) (n : Nat) (tp : Nat → Int32) (c : TC) (s : TT) : Prop := s.1 = E ∧ s.2.1 = 1 ∧ TK n tp c.2.1 c.2.2 c.1 s.2.2.1 s.2.2.2.2.2.1 s.2.2.2.2.1 s.2.2.2.2.2.2.2 s.2.2.2.2.2.2.1 s.2.2.2.1
/-- failed, there -/
def PD (e : Int32) (s : TT) : Prop := (s.1 = e ∧ ¬ e = -2) ∧ s.2.1 = 0
section GR
variable {E : Int32} {n : Nat} {tp mTape : Nat → Int32} {u : Nat → Nat} {c : TC} {s : TT} {e : Int32}
theorem tkz_dead (h : PD e s) (z : Bool) : tkz n mTape s z = s := by
  obtain ⟨a, b, k, l, r, st, v, w⟩ := s
  obtain ⟨h1, h2⟩ := h
  have h3 : b = 0 := h2
  subst h3
  rfl
theorem tkz_fail (h : PL E n tp c s) : PD c.2.2 (tkz n mTape s false) ∧ (tkz n mTape s false).2.2 = s.2.2 := by
  obtain ⟨h1, h2, h3⟩ := h
  unfold tkz f_X12_takes J_X12_takes_4
  rw [h2]
  refine ⟨⟨h3.2.1, rfl⟩, rfl⟩
theorem tkz_ok (hc : CH n tp mTape u) (hn : n ≤ 800) (h : PL E n tp c s) : PL E n tp (f_X4_advance c.1 tp (nI n)) (tkz n mTape s true) := by
  obtain ⟨h1, h2, h3⟩ := h
  have ht := tk_next hc hn h3.1 s.2.2.2.2.2.2.2 s.2.2.2.2.2.2.1 s.2.2.2.1
  rw [← h3.2.2.1] at ht
  unfold tkz f_X12_takes J_X12_takes_4
  rw [h2]
  refine ⟨h1, rfl, ?_⟩
  rw [← h3.2.2.1]
  exact ht
noncomputable def wordz (n : Nat) (mTape : Nat → Int32) (k : Int64) (s : TT) : TT := tkz n mTape s (f_X12_isWord s.2.2.1 s.2.2.2.2.2.2.2 s.2.1 k)
noncomputable def numz (n : Nat) (mTape : Nat → Int32) (lo hi : Int32) (s : TT) : TT := tkz n mTape s (J_X12_number_11 s.2.2.1 s.2.2.2.2.2.2.1 lo hi)
noncomputable def semiz (n : Nat) (mTape : Nat → Int32) (s : TT) : TT := tkz n mTape s (if s.2.2.1 = 4 then true else false)
theorem wordz_dead (k : Int64) (h : PD e s) : PD e (wordz n mTape k s) := by unfold wordz; rw [tkz_dead h]; exact h
theorem numz_dead (lo hi : Int32) (h : PD e s) : PD e (numz n mTape lo hi s) := by unfold numz; rw [tkz_dead h]; exact h
theorem semiz_dead (h : PD e s) : PD e (semiz n mTape s) := by unfold semiz; rw [tkz_dead h]; exact h
theorem isWord_pl (h : PL E n tp c s) {x : Nat} (hx : x < 10) : f_X12_isWord s.2.2.1 s.2.2.2.2.2.2.2 s.2.1 (Kx x) = f_X4_isKeyword c.2.1 c.2.2 c.1 tp (nI n) x := by
  obtain ⟨h1, h2, h3⟩ := h
  rw [h3.2.2.2.2.2.2.2.1 x hx]
  unfold f_X12_isWord
  rw [h2]
  by_cases a : s.2.2.1 = 2
  · by_cases b : s.2.2.2.2.2.2.2 = Kx x
    · rw [if_pos a, if_pos b, decide_eq_true a, decide_eq_true b]; rfl
    · rw [if_pos a, if_neg b, decide_eq_true a, decide_eq_false b]; rfl
  · rw [if_neg a, decide_eq_false a]; rfl
theorem isWord_dead (h : PD e s) (k : Int64) : f_X12_isWord s.2.2.1 s.2.2.2.2.2.2.2 s.2.1 k = false := by
  unfold f_X12_isWord
  rw [h.2]
  rfl
/-- a keyword -/
theorem p_word (hc : CH n tp mTape u) (hn : n ≤ 800) (h : PL E n tp c s) {x : Nat} (hx : x < 10) : ((f_X4_skipKeyword c.2.1 c.2.2 c.1 tp (nI n) x).1 = true ∧ PL E n tp (f_X4_skipKeyword c.2.1 c.2.2 c.1 tp (nI n) x).2 (wordz n mTape (Kx x) s)) ∨ ((f_X4_skipKeyword c.2.1 c.2.2 c.1 tp (nI n) x).1 = false ∧ PD (f_X4_skipKeyword c.2.1 c.2.2 c.1 tp (nI n) x).2.2.2 (wordz n mTape (Kx x) s)) := by
  have e := isWord_pl h hx
  unfold f_X4_skipKeyword wordz
  rw [e]
  cases f_X4_isKeyword c.2.1 c.2.2 c.1 tp (nI n) x
  · exact Or.inr ⟨rfl, (tkz_fail h).1⟩
  · exact Or.inl ⟨rfl, tkz_ok hc hn h⟩
theorem p_semi (hc : CH n tp mTape u) (hn : n ≤ 800) (h : PL E n tp c s) : ((f_X4_skipSemicolon c.2.1 c.2.2 c.1 tp (nI n)).1 = true ∧ PL E n tp (f_X4_skipSemicolon c.2.1 c.2.2 c.1 tp (nI n)).2 (semiz n mTape s)) ∨ ((f_X4_skipSemicolon c.2.1 c.2.2 c.1 tp (nI n)).1 = false ∧ PD (f_X4_skipSemicolon c.2.1 c.2.2 c.1 tp (nI n)).2.2.2 (semiz n mTape s)) := by
  have e := h.2.2.2.2.2.2.2.1
  unfold f_X4_skipSemicolon semiz
  by_cases q : c.2.1 = 3
  · rw [if_pos q, if_pos (e.mp q)]
    exact Or.inl ⟨rfl, tkz_ok hc hn h⟩
  · rw [if_neg q, if_neg (fun z => q (e.mpr z))]
    exact Or.inr ⟨rfl, (tkz_fail h).1⟩
theorem p_num (hc : CH n tp mTape u) (hn : n ≤ 800) (h : PL E n tp c s) {x lo hi : Nat} (hx : x < 10) (hl : lo < 1000) (hh : hi < 1000) (dn : Nat → Int32) : ((f_X4_readNumber c.2.1 c.2.2 c.1 tp (nI n) dn (nI x) (nI lo) (nI hi)).1 = true ∧ (f_X4_readNumber c.2.1 c.2.2 c.1 tp (nI n) dn (nI x) (nI lo) (nI hi)).2.1 = upd dn x s.2.2.2.2.2.2.1 ∧ (∃ v, s.2.2.2.2.2.2.1 = nI v ∧ lo ≤ v ∧ v ≤ hi) ∧ PL E n tp (f_X4_readNumber c.2.1 c.2.2 c.1 tp (nI n) dn (nI x) (nI lo) (nI hi)).2.2 (numz n mTape (nI lo) (nI hi) s)) ∨ ((f_X4_readNumber c.2.1 c.2.2 c.1 tp (nI n) dn (nI x) (nI lo) (nI hi)).1 = false ∧ PD (f_X4_readNumber c.2.1 c.2.2 c.1 tp (nI n) dn (nI x) (nI lo) (nI hi)).2.2.2.2 (numz n mTape (nI lo) (nI hi) s)) := by
  have e := h.2.2.2.2.2.2.1
  have ed := h.2.2.2.2.2.2.2.2.1
  unfold f_X4_readNumber numz J_X12_number_11
  by_cases q : c.2.1 = 2
  · obtain ⟨e1, e2⟩ := ed (e.mp q)
    obtain ⟨v, hv, ev⟩ := vp_in_of e2 (by decide)
    rw [if_pos q, if_pos (e.mp q), e1, ev]
    have ei : f_X12_in (nI v).toInt64 (nI lo).toInt64 (nI hi).toInt64 = (decide (lo ≤ v) && decide (v ≤ hi)) := by
      unfold f_X12_in
      rw [nI_l (by omega), nI_l (by omega), nI_l (by omega)]
      by_cases a : lo ≤ v
      · by_cases b : v ≤ hi
        · simp [lN_le (show lo < 2 ^ 31 by omega) (show v < 2 ^ 31 by omega), lN_lt (show v < 2 ^ 31 by omega) (show lo < 2 ^ 31 by omega), lN_le (show v < 2 ^ 31 by omega) (show hi < 2 ^ 31 by omega), lN_lt (show hi < 2 ^ 31 by omega) (show v < 2 ^ 31 by omega), a, b]
        · simp [lN_le (show lo < 2 ^ 31 by omega) (show v < 2 ^ 31 by omega), lN_lt (show v < 2 ^ 31 by omega) (show lo < 2 ^ 31 by omega), lN_le (show v < 2 ^ 31 by omega) (show hi < 2 ^ 31 by omega), lN_lt (show hi < 2 ^ 31 by omega) (show v < 2 ^ 31 by omega), a, b, Nat.lt_of_not_le b]
      · simp [lN_le (show lo < 2 ^ 31 by omega) (show v < 2 ^ 31 by omega), lN_lt (show v < 2 ^ 31 by omega) (show lo < 2 ^ 31 by omega), lN_le (show v < 2 ^ 31 by omega) (show hi < 2 ^ 31 by omega), lN_lt (show hi < 2 ^ 31 by omega) (show v < 2 ^ 31 by omega), a, Nat.lt_of_not_le a]
    rw [ei]
    by_cases a : lo ≤ v
    · rw [if_neg (show ¬ nI v < nI lo from fun z => by have := (nI_ltI (by omega) (by omega)).mp z; omega), decide_eq_true a]
      by_cases b : v ≤ hi
      · rw [if_pos (show nI v ≤ nI hi from (nI_leI (by omega) (by omega)).mpr b), decide_eq_true b]
        refine Or.inl ⟨rfl, ?_, ⟨v, rfl, a, b⟩, tkz_ok hc hn h⟩
        show f_X7_setNumber dn (nI x) (f_X4_digits c.2.2 c.1 tp (nI n)) = _
        rw [e1, ev]
        exact sc_10 _ _ hx
      · rw [if_neg (show ¬ nI v ≤ nI hi from fun z => b ((nI_leI (by omega) (by omega)).mp z)), decide_eq_false b]
        exact Or.inr ⟨rfl, (tkz_fail h).1⟩
    · rw [if_pos (show nI v < nI lo from (nI_ltI (by omega) (by omega)).mpr (by omega)), decide_eq_false a]
      exact Or.inr ⟨rfl, (tkz_fail h).1⟩
  · rw [if_neg q, if_neg (fun z => q (e.mpr z))]
    exact Or.inr ⟨rfl, (tkz_fail h).1⟩
noncomputable def rz1 (n : Nat) (mTape : Nat → Int32) (s : TT) : TT := wordz n mTape 642829806 s
noncomputable def rz2 (n : Nat) (mTape : Nat → Int32) (s : TT) : TT := numz n mTape 1 100 (rz1 n mTape s)
noncomputable def rz3 (n : Nat) (mTape : Nat → Int32) (s : TT) : TT := wordz n mTape 645974195 (rz2 n mTape s)
noncomputable def rz4 (n : Nat) (mTape : Nat → Int32) (s : TT) : TT := numz n mTape 0 100 (rz3 n mTape s)
noncomputable def rz5 (n : Nat) (mTape : Nat → Int32) (s : TT) : TT := numz n mTape 0 100 (rz4 n mTape s)
noncomputable def rz6 (n : Nat) (mTape : Nat → Int32) (s : TT) : TT := numz n mTape 0 100 (rz5 n mTape s)
noncomputable def rz7 (n : Nat) (mTape : Nat → Int32) (s : TT) : TT := numz n mTape 0 100 (rz6 n mTape s)
noncomputable def rz8 (n : Nat) (mTape : Nat → Int32) (s : TT) : TT := wordz n mTape 398963 (rz7 n mTape s)
noncomputable def rz9 (n : Nat) (mTape : Nat → Int32) (s : TT) : TT := numz n mTape 0 9 (rz8 n mTape s)
noncomputable def rz10 (n : Nat) (mTape : Nat → Int32) (s : TT) : TT := wordz n mTape 12748404 (rz9 n mTape s)
noncomputable def rz11 (n : Nat) (mTape : Nat → Int32) (s : TT) : TT := numz n mTape 1 20 (rz10 n mTape s)
noncomputable def rz12 (n : Nat) (mTape : Nat → Int32) (s : TT) : TT := wordz n mTape 3197529 (rz11 n mTape s)
noncomputable def rz13 (n : Nat) (mTape : Nat → Int32) (s : TT) : TT := numz n mTape 0 9 (rz12 n mTape s)
noncomputable def rz14 (n : Nat) (mTape : Nat → Int32) (s : TT) : TT := wordz n mTape 50861100 (rz13 n mTape s)
noncomputable def rz15 (n : Nat) (mTape : Nat → Int32) (s : TT) : TT := numz n mTape 0 30 (rz14 n mTape s)
noncomputable def rz16 (n : Nat) (mTape : Nat → Int32) (s : TT) : TT := wordz n mTape 623961094803 (rz15 n mTape s)
noncomputable def rz17 (n : Nat) (mTape : Nat → Int32) (s : TT) : TT := numz n mTape 0 3 (rz16 n mTape s)
noncomputable def rz18 (n : Nat) (mTape : Nat → Int32) (s : TT) : TT := semiz n mTape (rz17 n mTape s)
theorem dz18 (h : PD e (rz18 n mTape s)) : PD e (rz18 n mTape s) := h
theorem dz17 (h : PD e (rz17 n mTape s)) : PD e (rz18 n mTape s) := dz18 (semiz_dead h)
theorem dz16 (h : PD e (rz16 n mTape s)) : PD e (rz18 n mTape s) := dz17 (numz_dead 0 3 h)
theorem dz15 (h : PD e (rz15 n mTape s)) : PD e (rz18 n mTape s) := dz16 (wordz_dead 623961094803 h)
theorem dz14 (h : PD e (rz14 n mTape s)) : PD e (rz18 n mTape s) := dz15 (numz_dead 0 30 h)
theorem dz13 (h : PD e (rz13 n mTape s)) : PD e (rz18 n mTape s) := dz14 (wordz_dead 50861100 h)
theorem dz12 (h : PD e (rz12 n mTape s)) : PD e (rz18 n mTape s) := dz13 (numz_dead 0 9 h)
theorem dz11 (h : PD e (rz11 n mTape s)) : PD e (rz18 n mTape s) := dz12 (wordz_dead 3197529 h)
theorem dz10 (h : PD e (rz10 n mTape s)) : PD e (rz18 n mTape s) := dz11 (numz_dead 1 20 h)
theorem dz9 (h : PD e (rz9 n mTape s)) : PD e (rz18 n mTape s) := dz10 (wordz_dead 12748404 h)
theorem dz8 (h : PD e (rz8 n mTape s)) : PD e (rz18 n mTape s) := dz9 (numz_dead 0 9 h)
theorem dz7 (h : PD e (rz7 n mTape s)) : PD e (rz18 n mTape s) := dz8 (wordz_dead 398963 h)
theorem dz6 (h : PD e (rz6 n mTape s)) : PD e (rz18 n mTape s) := dz7 (numz_dead 0 100 h)
theorem dz5 (h : PD e (rz5 n mTape s)) : PD e (rz18 n mTape s) := dz6 (numz_dead 0 100 h)
theorem dz4 (h : PD e (rz4 n mTape s)) : PD e (rz18 n mTape s) := dz5 (numz_dead 0 100 h)
theorem dz3 (h : PD e (rz3 n mTape s)) : PD e (rz18 n mTape s) := dz4 (numz_dead 0 100 h)
theorem dz2 (h : PD e (rz2 n mTape s)) : PD e (rz18 n mTape s) := dz3 (wordz_dead 645974195 h)
theorem dz1 (h : PD e (rz1 n mTape s)) : PD e (rz18 n mTape s) := dz2 (numz_dead 1 100 h)
noncomputable def nz (n : Nat) (mTape : Nat → Int32) (s : TT) (b : Nat → Int32) : Nat → Int32 := (upd (upd (upd (upd (upd (upd (upd (upd (upd (upd b 0 ((rz1 n mTape s)).2.2.2.2.2.2.1) 1 ((rz3 n mTape s)).2.2.2.2.2.2.1) 2 ((rz4 n mTape s)).2.2.2.2.2.2.1) 3 ((rz5 n mTape s)).2.2.2.2.2.2.1) 4 ((rz6 n mTape s)).2.2.2.2.2.2.1) 5 ((rz8 n mTape s)).2.2.2.2.2.2.1) 6 ((rz10 n mTape s)).2.2.2.2.2.2.1) 7 ((rz12 n mTape s)).2.2.2.2.2.2.1) 8 ((rz14 n mTape s)).2.2.2.2.2.2.1) 9 ((rz16 n mTape s)).2.2.2.2.2.2.1)
theorem tkz_def (s : TT) (z : Bool) : tkz n mTape s z = f_X12_takes (nI n) s.1 s.2.2.2.2.1 s.2.2.2.2.2.1 s.2.2.1 s.2.2.2.2.2.2.2 s.2.2.2.2.2.2.1 s.2.2.2.1 s.2.1 mTape z := by unfold tkz; rfl
theorem eta8 (t : TT) : (t.1, t.2.1, t.2.2.1, t.2.2.2.1, t.2.2.2.2.1, t.2.2.2.2.2.1, t.2.2.2.2.2.2.1, t.2.2.2.2.2.2.2) = t := by
  obtain ⟨a, b, k, l, r, st, v, w⟩ := t
  rfl
theorem number_eq (lo hi : Int32) (s : TT) : f_X12_number (nI n) s.1 s.2.2.2.2.1 s.2.2.2.2.2.1 s.2.2.1 s.2.2.2.2.2.2.2 s.2.2.2.2.2.2.1 s.2.2.2.1 s.2.1 mTape lo hi = (s.2.2.2.2.2.2.1, numz n mTape lo hi s) := by
  have e31 : S_X12_number_31 (nI n) s.1 s.2.2.2.2.1 s.2.2.2.2.2.1 s.2.2.1 s.2.2.2.2.2.2.2 s.2.2.2.2.2.2.1 s.2.2.2.1 s.2.1 mTape lo hi = numz n mTape lo hi s := by
    unfold S_X12_number_31 numz tkz
    exact rfl
  unfold f_X12_number
  rw [e31]
theorem numberOf_eq (k : Int64) (lo hi : Int32) (s : TT) : f_X12_numberOf (nI n) s.1 s.2.2.2.2.1 s.2.2.2.2.2.1 s.2.2.1 s.2.2.2.2.2.2.2 s.2.2.2.2.2.2.1 s.2.2.2.1 s.2.1 mTape k lo hi = ((wordz n mTape k s).2.2.2.2.2.2.1, numz n mTape lo hi (wordz n mTape k s)) := by
  have e6 : S_X12_numberOf_6 (nI n) s.1 s.2.2.2.2.1 s.2.2.2.2.2.1 s.2.2.1 s.2.2.2.2.2.2.2 s.2.2.2.2.2.2.1 s.2.2.2.1 s.2.1 mTape k = wordz n mTape k s := by
    unfold S_X12_numberOf_6 wordz tkz
    exact rfl
  have e13 : S_X12_numberOf_13 (nI n) s.1 s.2.2.2.2.1 s.2.2.2.2.2.1 s.2.2.1 s.2.2.2.2.2.2.2 s.2.2.2.2.2.2.1 s.2.2.2.1 s.2.1 mTape k lo hi = ((wordz n mTape k s).2.2.2.2.2.2.1, numz n mTape lo hi (wordz n mTape k s)) := by
    unfold S_X12_numberOf_13
    rw [e6]
    exact number_eq lo hi _
  unfold f_X12_numberOf
  rw [e13]
theorem rzd1 (s : TT) : rz1 n mTape s = wordz n mTape 642829806 s := by unfold rz1; rfl
theorem rzd2 (s : TT) : rz2 n mTape s = numz n mTape 1 100 (rz1 n mTape s) := by unfold rz2; rfl
theorem rzd3 (s : TT) : rz3 n mTape s = wordz n mTape 645974195 (rz2 n mTape s) := by unfold rz3; rfl
theorem rzd4 (s : TT) : rz4 n mTape s = numz n mTape 0 100 (rz3 n mTape s) := by unfold rz4; rfl
theorem rzd5 (s : TT) : rz5 n mTape s = numz n mTape 0 100 (rz4 n mTape s) := by unfold rz5; rfl
theorem rzd6 (s : TT) : rz6 n mTape s = numz n mTape 0 100 (rz5 n mTape s) := by unfold rz6; rfl
theorem rzd7 (s : TT) : rz7 n mTape s = numz n mTape 0 100 (rz6 n mTape s) := by unfold rz7; rfl
theorem rzd8 (s : TT) : rz8 n mTape s = wordz n mTape 398963 (rz7 n mTape s) := by unfold rz8; rfl
theorem rzd9 (s : TT) : rz9 n mTape s = numz n mTape 0 9 (rz8 n mTape s) := by unfold rz9; rfl
theorem rzd10 (s : TT) : rz10 n mTape s = wordz n mTape 12748404 (rz9 n mTape s) := by unfold rz10; rfl
theorem rzd11 (s : TT) : rz11 n mTape s = numz n mTape 1 20 (rz10 n mTape s) := by unfold rz11; rfl
theorem rzd12 (s : TT) : rz12 n mTape s = wordz n mTape 3197529 (rz11 n mTape s) := by unfold rz12; rfl
theorem rzd13 (s : TT) : rz13 n mTape s = numz n mTape 0 9 (rz12 n mTape s) := by unfold rz13; rfl
theorem rzd14 (s : TT) : rz14 n mTape s = wordz n mTape 50861100 (rz13 n mTape s) := by unfold rz14; rfl
theorem rzd15 (s : TT) : rz15 n mTape s = numz n mTape 0 30 (rz14 n mTape s) := by unfold rz15; rfl
theorem rzd16 (s : TT) : rz16 n mTape s = wordz n mTape 623961094803 (rz15 n mTape s) := by unfold rz16; rfl
theorem rzd17 (s : TT) : rz17 n mTape s = numz n mTape 0 3 (rz16 n mTape s) := by unfold rz17; rfl
theorem rzd18 (s : TT) : rz18 n mTape s = semiz n mTape (rz17 n mTape s) := by unfold rz18; rfl
theorem sn12 (s : TT) : S_X12_readNumbers_12 (nI n) s.1 s.2.2.2.2.1 s.2.2.2.2.2.1 s.2.2.1 s.2.2.2.2.2.2.2 s.2.2.2.2.2.2.1 s.2.2.2.1 s.2.1 mTape = ((rz1 n mTape s).2.2.2.2.2.2.1, rz2 n mTape s) := by
  unfold S_X12_readNumbers_12
  rw [numberOf_eq 642829806 1 100 s, rzd2, rzd1]
theorem sn28 (s : TT) : S_X12_readNumbers_28 (nI n) s.1 s.2.2.2.2.1 s.2.2.2.2.2.1 s.2.2.1 s.2.2.2.2.2.2.2 s.2.2.2.2.2.2.1 s.2.2.2.1 s.2.1 mTape = ((rz3 n mTape s).2.2.2.2.2.2.1, rz4 n mTape s) := by
  unfold S_X12_readNumbers_28
  rw [sn12]
  dsimp only
  rw [numberOf_eq 645974195 0 100 (rz2 n mTape s), rzd4, rzd3]
theorem sn50 (s : TT) : S_X12_readNumbers_50 (nI n) s.1 s.2.2.2.2.1 s.2.2.2.2.2.1 s.2.2.1 s.2.2.2.2.2.2.2 s.2.2.2.2.2.2.1 s.2.2.2.1 s.2.1 mTape = ((rz4 n mTape s).2.2.2.2.2.2.1, rz5 n mTape s) := by
  unfold S_X12_readNumbers_50
  rw [sn28]
  dsimp only
  rw [number_eq 0 100 (rz4 n mTape s), rzd5]
theorem sn50a (s : TT) : S_X12_readNumbers_50a (nI n) s.1 s.2.2.2.2.1 s.2.2.2.2.2.1 s.2.2.1 s.2.2.2.2.2.2.2 s.2.2.2.2.2.2.1 s.2.2.2.1 s.2.1 mTape = ((rz5 n mTape s).2.2.2.2.2.2.1, rz6 n mTape s) := by
  unfold S_X12_readNumbers_50a
  rw [sn50]
  dsimp only
  rw [number_eq 0 100 (rz5 n mTape s), rzd6]
theorem sn50b (s : TT) : S_X12_readNumbers_50b (nI n) s.1 s.2.2.2.2.1 s.2.2.2.2.2.1 s.2.2.1 s.2.2.2.2.2.2.2 s.2.2.2.2.2.2.1 s.2.2.2.1 s.2.1 mTape = ((rz6 n mTape s).2.2.2.2.2.2.1, rz7 n mTape s) := by
  unfold S_X12_readNumbers_50b
  rw [sn50a]
  dsimp only
  rw [number_eq 0 100 (rz6 n mTape s), rzd7]
theorem sn72 (s : TT) : S_X12_readNumbers_72 (nI n) s.1 s.2.2.2.2.1 s.2.2.2.2.2.1 s.2.2.1 s.2.2.2.2.2.2.2 s.2.2.2.2.2.2.1 s.2.2.2.1 s.2.1 mTape = ((rz8 n mTape s).2.2.2.2.2.2.1, rz9 n mTape s) := by
  unfold S_X12_readNumbers_72
  rw [sn50b]
  dsimp only
  rw [numberOf_eq 398963 0 9 (rz7 n mTape s), rzd9, rzd8]
theorem sn89 (s : TT) : S_X12_readNumbers_89 (nI n) s.1 s.2.2.2.2.1 s.2.2.2.2.2.1 s.2.2.1 s.2.2.2.2.2.2.2 s.2.2.2.2.2.2.1 s.2.2.2.1 s.2.1 mTape = ((rz10 n mTape s).2.2.2.2.2.2.1, rz11 n mTape s) := by
  unfold S_X12_readNumbers_89
  rw [sn72]
  dsimp only
  rw [numberOf_eq 12748404 1 20 (rz9 n mTape s), rzd11, rzd10]
theorem sn106 (s : TT) : S_X12_readNumbers_106 (nI n) s.1 s.2.2.2.2.1 s.2.2.2.2.2.1 s.2.2.1 s.2.2.2.2.2.2.2 s.2.2.2.2.2.2.1 s.2.2.2.1 s.2.1 mTape = ((rz12 n mTape s).2.2.2.2.2.2.1, rz13 n mTape s) := by
  unfold S_X12_readNumbers_106
  rw [sn89]
  dsimp only
  rw [numberOf_eq 3197529 0 9 (rz11 n mTape s), rzd13, rzd12]
theorem sn123 (s : TT) : S_X12_readNumbers_123 (nI n) s.1 s.2.2.2.2.1 s.2.2.2.2.2.1 s.2.2.1 s.2.2.2.2.2.2.2 s.2.2.2.2.2.2.1 s.2.2.2.1 s.2.1 mTape = ((rz14 n mTape s).2.2.2.2.2.2.1, rz15 n mTape s) := by
  unfold S_X12_readNumbers_123
  rw [sn106]
  dsimp only
  rw [numberOf_eq 50861100 0 30 (rz13 n mTape s), rzd15, rzd14]
theorem sn139 (s : TT) : S_X12_readNumbers_139 (nI n) s.1 s.2.2.2.2.1 s.2.2.2.2.2.1 s.2.2.1 s.2.2.2.2.2.2.2 s.2.2.2.2.2.2.1 s.2.2.2.1 s.2.1 mTape = ((rz16 n mTape s).2.2.2.2.2.2.1, rz17 n mTape s) := by
  unfold S_X12_readNumbers_139
  rw [sn123]
  dsimp only
  rw [numberOf_eq 623961094803 0 3 (rz15 n mTape s), rzd17, rzd16]
theorem takes_semi (p : Int32 × TT) : f_X12_takes (nI n) p.2.1 p.2.2.2.2.2.1 p.2.2.2.2.2.2.1 p.2.2.2.1 p.2.2.2.2.2.2.2.2 p.2.2.2.2.2.2.2.1 p.2.2.2.2.1 p.2.2.1 mTape (if p.2.2.2.1 = 4 then true else false) = semiz n mTape p.2 := by
  unfold semiz tkz
  exact rfl
theorem sn157 (s : TT) : S_X12_readNumbers_157 (nI n) s.1 s.2.2.2.2.1 s.2.2.2.2.2.1 s.2.2.1 s.2.2.2.2.2.2.2 s.2.2.2.2.2.2.1 s.2.2.2.1 s.2.1 mTape = rz18 n mTape s := by
  unfold S_X12_readNumbers_157 J_X12_readNumbers_149
  refine (takes_semi _).trans ?_
  rw [sn139, rzd18]
theorem readNumbers_eq (s : TT) (b : Nat → Int32) : f_X12_readNumbers (nI n) s.1 s.2.2.2.2.1 s.2.2.2.2.2.1 s.2.2.1 s.2.2.2.2.2.2.2 s.2.2.2.2.2.2.1 s.2.2.2.1 s.2.1 mTape b = ((rz18 n mTape s).1, (rz18 n mTape s).2.1, (rz18 n mTape s).2.2.1, (rz18 n mTape s).2.2.2.1, (rz18 n mTape s).2.2.2.2.1, (rz18 n mTape s).2.2.2.2.2.1, (rz18 n mTape s).2.2.2.2.2.2.1, (rz18 n mTape s).2.2.2.2.2.2.2, nz n mTape s b) := by
  have i2 : ((1 : Int32) + 1).toNatClampNeg = 2 := by decide
  have i3 : ((1 : Int32) + 2).toNatClampNeg = 3 := by decide
  have i4 : ((1 : Int32) + 3).toNatClampNeg = 4 := by decide
  unfold f_X12_readNumbers nz
  simp only [i2, i3, i4, sn157, sn12, sn28, sn50, sn50a, sn50b, sn72, sn89, sn106, sn123, sn139]
end GR
