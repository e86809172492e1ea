/-! one person of a setup text -/
section PN
variable {E : Int32} {n : Nat} {tp mTape : Nat → Int32} {u : Nat → Nat} {c : TC} {s : TT}
noncomputable def pz1 (n : Nat) (mTape : Nat → Int32) (np : Int32) (s : TT) : TT := tkz n mTape s (J_X12_readPerson_13 s.2.2.1 s.2.2.2.2.2.2.2 s.2.1 np)
/-- a new name, then on -/
noncomputable def nmz (n : Nat) (mTape : Nat → Int32) (np : Int32) (nam : Nat → Int32) (s : TT) : TT := tkz n mTape s (if s.2.2.1 = 1 then (if 0 ≤ f_X12_named s.2.2.1 s.2.2.2.1 nam np then false else true) else false)
noncomputable def nxz (n : Nat) (mTape : Nat → Int32) (s : TT) : TT := (s.1, s.2.1, f_X12_next (nI n) s.2.2.2.2.1 s.2.2.2.2.2.2.2 s.2.2.2.2.2.2.1 s.2.2.2.1 mTape)
noncomputable def moz (n : Nat) (mTape : Nat → Int32) (nb : Int32) (bn : Nat → Int32) (s : TT) : Int32 := f_X12_named (nxz n mTape s).2.2.1 (nxz n mTape s).2.2.2.1 bn nb
noncomputable def ofz (n : Nat) (mTape : Nat → Int32) (nb : Int32) (bn : Nat → Int32) (s : TT) : TT := tkz n mTape (nxz n mTape s) (if moz n mTape nb bn s < 0 then false else true)
/-- of a boat, or not -/
noncomputable def jzz (n : Nat) (mTape : Nat → Int32) (nb : Int32) (bn : Nat → Int32) (s : TT) : Int32 × TT := bif f_X12_isWord s.2.2.1 s.2.2.2.2.2.2.2 s.2.1 486 then (moz n mTape nb bn s, ofz n mTape nb bn s) else (-2, s)
noncomputable def pz2 (n : Nat) (mTape : Nat → Int32) (np : Int32) (nam : Nat → Int32) (s : TT) : TT := nmz n mTape np nam (pz1 n mTape np s)
noncomputable def pz4 (n : Nat) (mTape : Nat → Int32) (np nb : Int32) (nam bn : Nat → Int32) (s : TT) : TT := semiz n mTape (jzz n mTape nb bn (pz2 n mTape np nam s)).2
theorem sp27 (s : TT) (np : Int32) : S_X12_readPerson_27 (nI n) s.1 s.2.2.2.2.1 s.2.2.2.2.2.1 s.2.2.1 s.2.2.2.2.2.2.2 s.2.2.2.2.2.2.1 s.2.2.2.1 s.2.1 np mTape = pz1 n mTape np s := by
  unfold S_X12_readPerson_27 pz1
  rw [tkz_def]
theorem sp61 (s : TT) (np : Int32) (nam : Nat → Int32) : S_X12_readPerson_61 (nI n) s.1 s.2.2.2.2.1 s.2.2.2.2.2.1 s.2.2.1 s.2.2.2.2.2.2.2 s.2.2.2.2.2.2.1 s.2.2.2.1 s.2.1 np mTape nam = pz2 n mTape np nam s := by
  unfold S_X12_readPerson_61 J_X12_readPerson_41 pz2 nmz
  rw [sp27, tkz_def]
theorem sp78 (s : TT) (np : Int32) (nam : Nat → Int32) : S_X12_readPerson_78 (nI n) s.1 s.2.2.2.2.1 s.2.2.2.2.2.1 s.2.2.1 s.2.2.2.2.2.2.2 s.2.2.2.2.2.2.1 s.2.2.2.1 s.2.1 np mTape nam = (nxz n mTape (pz2 n mTape np nam s)).2.2 := by
  unfold S_X12_readPerson_78 nxz
  rw [sp61]
theorem spj96 (s : TT) (np nb : Int32) (nam bn : Nat → Int32) : J_X12_readPerson_96 (nI n) s.1 s.2.2.2.2.1 s.2.2.2.2.2.1 s.2.2.1 s.2.2.2.2.2.2.2 s.2.2.2.2.2.2.1 s.2.2.2.1 s.2.1 np nb mTape nam bn = if moz n mTape nb bn (pz2 n mTape np nam s) < 0 then false else true := by
  unfold J_X12_readPerson_96 moz
  rw [sp78]
theorem sp104 (s : TT) (np nb : Int32) (nam bn : Nat → Int32) : S_X12_readPerson_104 (nI n) s.1 s.2.2.2.2.1 s.2.2.2.2.2.1 s.2.2.1 s.2.2.2.2.2.2.2 s.2.2.2.2.2.2.1 s.2.2.2.1 s.2.1 np nb mTape nam bn = ofz n mTape nb bn (pz2 n mTape np nam s) := by
  unfold S_X12_readPerson_104 ofz
  rw [sp78, sp61, spj96, tkz_def]
  unfold nxz
  dsimp only
theorem eta9 (m : Int32) (t : TT) : (m, t.1, t.2.1, t.2.2.1, t.2.2.2.1, t.2.2.2.2.1, t.2.2.2.2.2.1, t.2.2.2.2.2.2.1, t.2.2.2.2.2.2.2) = (m, t) := by
  obtain ⟨a, b, k, l, r, st, v, w⟩ := t
  rfl
theorem spj74 (s : TT) (np nb : Int32) (nam bn : Nat → Int32) : J_X12_readPerson_74 (nI n) s.1 s.2.2.2.2.1 s.2.2.2.2.2.1 s.2.2.1 s.2.2.2.2.2.2.2 s.2.2.2.2.2.2.1 s.2.2.2.1 s.2.1 np nb mTape nam bn = jzz n mTape nb bn (pz2 n mTape np nam s) := by
  unfold J_X12_readPerson_74 jzz
  rw [sp104, sp61, sp78, eta9, eta9]
  unfold moz
  rfl
theorem sp121 (s : TT) (np nb : Int32) (nam bn : Nat → Int32) : S_X12_readPerson_121 (nI n) s.1 s.2.2.2.2.1 s.2.2.2.2.2.1 s.2.2.1 s.2.2.2.2.2.2.2 s.2.2.2.2.2.2.1 s.2.2.2.1 s.2.1 np nb mTape nam bn = pz4 n mTape np nb nam bn s := by
  unfold S_X12_readPerson_121 J_X12_readPerson_113 pz4 semiz
  rw [spj74, tkz_def]
abbrev T11 := Int32 × Int32 × Int32 × Int32 × Int32 × Int32 × Int32 × Int32 × Int64 × (Nat → Int32) × (Nat → Int32)
def st11 (s : TT) (np : Int32) (bo nam : Nat → Int32) : T11 := (s.1, s.2.1, s.2.2.1, s.2.2.2.1, np, s.2.2.2.2.1, s.2.2.2.2.2.1, s.2.2.2.2.2.2.1, s.2.2.2.2.2.2.2, bo, nam)
theorem readPerson_eq (s : TT) (np nb : Int32) (nam bo bn : Nat → Int32) : f_X12_readPerson (nI n) s.1 s.2.2.2.2.1 s.2.2.2.2.2.1 s.2.2.1 s.2.2.2.2.2.2.2 s.2.2.2.2.2.2.1 s.2.2.2.1 s.2.1 np nb mTape nam bo bn = bif tb (pz4 n mTape np nb nam bn s).2.1 then st11 (pz4 n mTape np nb nam bn s) (np + 1) (upd bo np.toNatClampNeg (jzz n mTape nb bn (pz2 n mTape np nam s)).1) (upd nam np.toNatClampNeg (pz1 n mTape np s).2.2.2.1) else st11 (pz4 n mTape np nb nam bn s) np bo nam := by
  unfold f_X12_readPerson st11
  simp only [sp121, spj74, sp27]
theorem pl_nx (hc : CH n tp mTape u) (hn : n ≤ 800) (h : PL E n tp c s) : PL E n tp (f_X4_advance c.1 tp (nI n)) (nxz n mTape s) := by
  obtain ⟨h1, h2, h3⟩ := h
  have ht := tk_next hc hn h3.1 s.2.2.2.2.2.2.2 s.2.2.2.2.2.2.1 s.2.2.2.1
  rw [← h3.2.2.1] at ht
  unfold nxz
  refine ⟨h1, h2, ?_⟩
  rw [← h3.2.2.1]
  exact ht
theorem jz_dead {e : Int32} {nb : Int32} {bn : Nat → Int32} (h : PD e s) : jzz n mTape nb bn s = (-2, s) := by
  unfold jzz
  rw [isWord_dead h]
  rfl
theorem dead_p2 {e : Int32} {np nb : Int32} {nam bn : Nat → Int32} (h : PD e (pz2 n mTape np nam s)) : PD e (pz4 n mTape np nb nam bn s) := by
  unfold pz4
  rw [jz_dead h]
  exact semiz_dead h
theorem dead_p1 {e : Int32} {np nb : Int32} {nam bn : Nat → Int32} (h : PD e (pz1 n mTape np s)) : PD e (pz4 n mTape np nb nam bn s) := dead_p2 (by unfold pz2 nmz; rw [tkz_dead h]; exact h)
theorem no_out {A : Bool × (Nat → Int32) × Int32 × (Nat → Int32) × TC} {a b : Nat → Int32} {m : Int32} {x : TC} (q : A = (false, a, m, b, x.1, x.2.1, x.2.2)) (d : PD x.2.2 s) : A.1 = false ∧ PD A.2.2.2.2.2.2 s := by
  rw [q]
  exact ⟨rfl, d⟩
theorem ok2 {A : Bool × (Nat → Int32) × Int32 × (Nat → Int32) × TC} {a b : Nat → Int32} {m : Int32} {x : TC} (q : A = (true, a, m, b, x.1, x.2.1, x.2.2)) (p : PL E n tp x s) : A.1 = true ∧ A.2.1 = a ∧ A.2.2.1 = m ∧ A.2.2.2.1 = b ∧ PL E n tp A.2.2.2.2 s := by
  rw [q]
  exact ⟨rfl, rfl, rfl, rfl, p⟩
theorem out2 {A : Bool × (Nat → Int32) × Int32 × (Nat → Int32) × TC} {a b : Nat → Int32} {m : Int32} {x : Bool × TC} (q : A = (x.1, a, m, b, x.2.1, x.2.2.1, x.2.2.2)) (t : (x.1 = true ∧ PL E n tp x.2 s) ∨ (x.1 = false ∧ PD x.2.2.2 s)) : (A.1 = true ∧ A.2.1 = a ∧ A.2.2.1 = m ∧ A.2.2.2.1 = b ∧ PL E n tp A.2.2.2.2 s) ∨ (A.1 = false ∧ PD A.2.2.2.2.2.2 s) := by
  rw [q]
  rcases t with ⟨o, p⟩ | ⟨o, d⟩
  · exact Or.inl ⟨o, rfl, rfl, rfl, p⟩
  · exact Or.inr ⟨o, d⟩
variable {dnB nP : Int32} {dbNames pN fB nam bo bn : Nat → Int32} {B k : Nat}
/-- after the word `person`: name, boat, semicolon -/
theorem p_person (hc : CH n tp mTape u) (hn : n ≤ 800) (h : PL E n tp c s) (hk : k < 20) (hP : nP = nI k) (hB : B ≤ 6) (hb : dnB = nI B) (hN : ∀ i, i < k → pN i = nam i) (hbn : ∀ i, i < B → dbNames i = bn i) :
    ((f_X4_readPerson c.2.1 c.2.2 c.1 tp (nI n) dbNames pN fB dnB nP).1 = true ∧ (f_X4_readPerson c.2.1 c.2.2 c.1 tp (nI n) dbNames pN fB dnB nP).2.1 = upd fB k (jzz n mTape (nI B) bn (nmz n mTape (nI k) nam s)).1 ∧ (f_X4_readPerson c.2.1 c.2.2 c.1 tp (nI n) dbNames pN fB dnB nP).2.2.1 = nI (k + 1) ∧ (f_X4_readPerson c.2.1 c.2.2 c.1 tp (nI n) dbNames pN fB dnB nP).2.2.2.1 = upd pN k s.2.2.2.1 ∧ vp_in s.2.2.2.1 (2 ^ 30) ∧ ((jzz n mTape (nI B) bn (nmz n mTape (nI k) nam s)).1 = -2 ∨ vp_in (jzz n mTape (nI B) bn (nmz n mTape (nI k) nam s)).1 B) ∧ PL E n tp (f_X4_readPerson c.2.1 c.2.2 c.1 tp (nI n) dbNames pN fB dnB nP).2.2.2.2 (semiz n mTape (jzz n mTape (nI B) bn (nmz n mTape (nI k) nam s)).2)) ∨
    ((f_X4_readPerson c.2.1 c.2.2 c.1 tp (nI n) dbNames pN fB dnB nP).1 = false ∧ PD (f_X4_readPerson c.2.1 c.2.2 c.1 tp (nI n) dbNames pN fB dnB nP).2.2.2.2.2.2 (semiz n mTape (jzz n mTape (nI B) bn (nmz n mTape (nI k) nam s)).2)) := by
  have nmd := h.2.2.2.2.2.2.2.2.2.2.1
  cases q2 : f_X4_isName c.2.1 c.2.2 c.1 tp (nI n)
  · rw [q2] at nmd
    have hki : ¬ s.2.2.1 = 1 := of_decide_eq_false nmd.symm
    have d : PD c.2.2 (nmz n mTape (nI k) nam s) := by
      unfold nmz
      rw [if_neg hki]
      exact (tkz_fail h).1
    rw [jz_dead d]
    refine Or.inr (no_out (x := c) (a := fB) (b := pN) (m := nP) ?_ (semiz_dead d))
    unfold f_X4_readPerson
    simp only [q2, cond_false]
  · rw [q2] at nmd
    have hki : s.2.2.1 = 1 := of_decide_eq_true nmd.symm
    obtain ⟨l1, l2⟩ := h.2.2.2.2.2.2.2.2.2.2.2 hki
    have fe : f_X7_personNamed pN nP (f_X4_letters c.2.2 c.1 tp (nI n)) = f_X12_named s.2.2.1 s.2.2.2.1 nam (nI k) := by
      rw [l1, hP, hki]
      exact find_eq (by omega) (by decide) hN
    have nn := named_neg nam k (by omega) s.2.2.1 s.2.2.2.1
    by_cases q3 : f_X7_personNamed pN nP (f_X4_letters c.2.2 c.1 tp (nI n)) = -2
    · have p2 : PL E n tp (S_X4_readPerson_34 c.1 tp (nI n)) (nmz n mTape (nI k) nam s) := by
        unfold nmz S_X4_readPerson_34
        rw [if_pos hki, if_neg (fun z => nn.mp z (fe.symm.trans q3))]
        exact tkz_ok hc hn h
      have w := isWord_pl p2 (x := 9) (by decide)
      have add : ∀ b, f_X7_addPerson pN fB nP s.2.2.2.1 b = (upd fB k b, nI (k + 1), upd pN k s.2.2.2.1) := fun b => by
        unfold f_X7_addPerson
        rw [hP, if_pos (show nI k < 20 from nI_lt (b := 20) hk (by decide)), setCell_nI (by decide) hk, setCell_nI (by decide) hk, nI_1]
      generalize nmz n mTape (nI k) nam s = y at p2 w ⊢
      cases q4 : f_X4_isKeyword (S_X4_readPerson_34 c.1 tp (nI n)).2.1 (S_X4_readPerson_34 c.1 tp (nI n)).2.2 (S_X4_readPerson_34 c.1 tp (nI n)).1 tp (nI n) 9
      · rw [q4] at w
        have ej : jzz n mTape (nI B) bn y = (-2, y) := by
          unfold jzz
          rw [show f_X12_isWord y.2.2.1 y.2.2.2.2.2.2.2 y.2.1 486 = false from w]
          rfl
        rw [ej]
        have e87 : (S_X4_readPerson_87 c.2.2 c.1 tp (nI n) pN fB nP) = (upd fB k (-2), nI (k + 1), upd pN k s.2.2.2.1) := by
          unfold S_X4_readPerson_87
          rw [l1, add]
        have t : ((S_X4_readPerson_91 c.1 tp (nI n)).1 = true ∧ PL E n tp (S_X4_readPerson_91 c.1 tp (nI n)).2 (semiz n mTape y)) ∨ ((S_X4_readPerson_91 c.1 tp (nI n)).1 = false ∧ PD (S_X4_readPerson_91 c.1 tp (nI n)).2.2.2 (semiz n mTape y)) := by
          unfold S_X4_readPerson_91
          exact p_semi hc hn p2
        have r := out2 (A := (f_X4_readPerson c.2.1 c.2.2 c.1 tp (nI n) dbNames pN fB dnB nP)) (a := upd fB k (-2)) (m := nI (k + 1)) (b := upd pN k s.2.2.2.1) (x := (S_X4_readPerson_91 c.1 tp (nI n))) (by
          unfold f_X4_readPerson
          simp only [q2, if_pos q3, q4, cond_true, cond_false, e87]) t
        rcases r with ⟨r1, r2, r3, r4, r5⟩ | r
        · exact Or.inl ⟨r1, r2, r3, r4, l2, Or.inl rfl, r5⟩
        · exact Or.inr r
      · rw [q4] at w
        have ej : jzz n mTape (nI B) bn y = (moz n mTape (nI B) bn y, ofz n mTape (nI B) bn y) := by
          unfold jzz
          rw [show f_X12_isWord y.2.2.1 y.2.2.2.2.2.2.2 y.2.1 486 = true from w]
          rfl
        rw [ej]
        have p3 : PL E n tp (S_X4_readPerson_47 c.1 tp (nI n)) (nxz n mTape y) := by
          unfold S_X4_readPerson_47
          exact pl_nx hc hn p2
        have nmd3 := p3.2.2.2.2.2.2.2.2.2.2.1
        have mr := named_res bn B (by omega) (nxz n mTape y).2.2.1 (nxz n mTape y).2.2.2.1
        have e54 : (J_X4_readPerson_54 c.1 tp (nI n) dbNames dnB) = moz n mTape (nI B) bn y := by
          unfold J_X4_readPerson_54 moz
          rw [nmd3]
          by_cases z : (nxz n mTape y).2.2.1 = 1
          · rw [decide_eq_true z, cond_true, (p3.2.2.2.2.2.2.2.2.2.2.2 z).1, hb, z]
            exact find_eq hB (by decide) hbn
          · rw [decide_eq_false z, cond_false]
            rcases mr with mr | ⟨j, _, _, mr⟩
            · exact mr.symm
            · exact absurd mr z
        have hmo : moz n mTape (nI B) bn y = -2 ∨ ∃ j, j < B ∧ moz n mTape (nI B) bn y = nI j := by
          rcases mr with mr | ⟨j, a, b, _⟩
          · exact Or.inl mr
          · exact Or.inr ⟨j, a, b⟩
        by_cases q5 : (J_X4_readPerson_54 c.1 tp (nI n) dbNames dnB) = -2
        · have d : PD (S_X4_readPerson_47 c.1 tp (nI n)).2.2 (ofz n mTape (nI B) bn y) := by
            unfold ofz
            rw [if_pos (show moz n mTape (nI B) bn y < 0 by rw [← e54, q5]; decide)]
            exact (tkz_fail p3).1
          refine Or.inr (no_out (x := (S_X4_readPerson_47 c.1 tp (nI n))) (a := fB) (b := pN) (m := nP) ?_ (semiz_dead d))
          unfold f_X4_readPerson
          simp only [q2, if_pos q3, q4, cond_true, if_pos q5]
        · have hj : ∃ j, j < B ∧ moz n mTape (nI B) bn y = nI j := by
            rcases hmo with z | z
            · exact absurd (e54.trans z) q5
            · exact z
          obtain ⟨j, j1, j2⟩ := hj
          have p4 : PL E n tp (S_X4_readPerson_78 c.1 tp (nI n)) (ofz n mTape (nI B) bn y) := by
            unfold ofz S_X4_readPerson_78
            rw [if_neg (show ¬ moz n mTape (nI B) bn y < 0 by rw [j2]; exact nI_pos (by omega))]
            exact tkz_ok hc hn p3
          have e87 : (S_X4_readPerson_87a c.2.2 c.1 tp (nI n) dbNames pN fB dnB nP) = (upd fB k (moz n mTape (nI B) bn y), nI (k + 1), upd pN k s.2.2.2.1) := by
            unfold S_X4_readPerson_87a
            rw [l1, add, e54]
          have t : ((S_X4_readPerson_91a c.1 tp (nI n)).1 = true ∧ PL E n tp (S_X4_readPerson_91a c.1 tp (nI n)).2 (semiz n mTape (ofz n mTape (nI B) bn y))) ∨ ((S_X4_readPerson_91a c.1 tp (nI n)).1 = false ∧ PD (S_X4_readPerson_91a c.1 tp (nI n)).2.2.2 (semiz n mTape (ofz n mTape (nI B) bn y))) := by
            unfold S_X4_readPerson_91a
            exact p_semi hc hn p4
          have qq : (f_X4_readPerson c.2.1 c.2.2 c.1 tp (nI n) dbNames pN fB dnB nP) = ((S_X4_readPerson_91a c.1 tp (nI n)).1, upd fB k (moz n mTape (nI B) bn y), nI (k + 1), upd pN k s.2.2.2.1, (S_X4_readPerson_91a c.1 tp (nI n)).2.1, (S_X4_readPerson_91a c.1 tp (nI n)).2.2.1, (S_X4_readPerson_91a c.1 tp (nI n)).2.2.2) := by
            unfold f_X4_readPerson
            rw [q2, cond_true, if_pos q3, q4, cond_true, if_neg q5, e87]
          rcases t with ⟨o, p5⟩ | ⟨o, d⟩
          · rw [o] at qq
            obtain ⟨r1, r2, r3, r4, r5⟩ := ok2 (x := (S_X4_readPerson_91a c.1 tp (nI n)).2) qq p5
            exact Or.inl ⟨r1, r2, r3, r4, l2, Or.inr (by rw [j2]; exact vp_in_nI j1 (by omega)), r5⟩
          · rw [o] at qq
            exact Or.inr (no_out (x := (S_X4_readPerson_91a c.1 tp (nI n)).2) qq d)
    · have d : PD c.2.2 (nmz n mTape (nI k) nam s) := by
        unfold nmz
        rw [if_pos hki, if_pos (nn.mpr (fun z => q3 (fe.trans z)))]
        exact (tkz_fail h).1
      rw [jz_dead d]
      refine Or.inr (no_out (x := c) (a := fB) (b := pN) (m := nP) ?_ (semiz_dead d))
      unfold f_X4_readPerson
      simp only [q2, if_neg q3, cond_true]
end PN
