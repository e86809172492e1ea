/-! the first two people: the reference calls without asking -/
section PF
variable {E : Int32} {n : Nat} {tp mTape : Nat → Int32} {u : Nat → Nat} {s : TT} {bn bo nam : Nat → Int32} {B k : Nat}
variable {pk pst pe dnB dnP : Int32} {dbNames dpNames dfBoats : Nat → Int32}
theorem pz4_dead {e : Int32} (h : PD e s) (np nb : Int32) (nam bn : Nat → Int32) : pz4 n mTape np nb nam bn s = s := by
  have e1 : pz1 n mTape np s = s := by unfold pz1; exact tkz_dead h _
  have e2 : pz2 n mTape np nam s = s := by unfold pz2 nmz; rw [e1]; exact tkz_dead h _
  unfold pz4 semiz
  rw [e2, jz_dead h]
  exact tkz_dead h _
theorem rp_dead {e : Int32} (h : PD e s) (np nb : Int32) (nam bo bn : Nat → Int32) : f_X12_readPerson (nI n) s.1 s.2.2.2.2.1 s.2.2.2.2.2.1 s.2.2.1 s.2.2.2.2.2.2.2 s.2.2.2.2.2.2.1 s.2.2.2.1 s.2.1 np nb mTape nam bo bn = st11 s np bo nam := by
  rw [readPerson_eq, pz4_dead h, h.2]
  rfl
theorem two_step (hc : CH n tp mTape u) (hn : n ≤ 800) (hB : B ≤ 6) (hb : dnB = nI B) (hbn : ∀ i, i < B → dbNames i = bn i) (hk : k < 2) {sn : (Nat → Int32) × Int32 × (Nat → Int32) × TC} (hf : (fst_ (fun k => E_X4_readPeople_2 pk pst pe tp (nI n) dbNames dpNames dfBoats dnB dnP k) k) = none) (hl : (L_X4_readPeople_2 pk pst pe tp (nI n) dbNames dpNames dfBoats dnB dnP k) = sn) (h : PS B E n tp k sn s bo nam) :
    (∃ sn' s' bo' nam', f_X12_readPerson (nI n) s.1 s.2.2.2.2.1 s.2.2.2.2.2.1 s.2.2.1 s.2.2.2.2.2.2.2 s.2.2.2.2.2.2.1 s.2.2.2.1 s.2.1 (nI k) (nI B) mTape nam bo bn = st11 s' (nI (k + 1)) bo' nam' ∧ (fst_ (fun k => E_X4_readPeople_2 pk pst pe tp (nI n) dbNames dpNames dfBoats dnB dnP k) (k + 1)) = none ∧ (L_X4_readPeople_2 pk pst pe tp (nI n) dbNames dpNames dfBoats dnB dnP (k + 1)) = sn' ∧ PS B E n tp (k + 1) sn' s' bo' nam') ∨
    (∃ s', f_X12_readPerson (nI n) s.1 s.2.2.2.2.1 s.2.2.2.2.2.1 s.2.2.1 s.2.2.2.2.2.2.2 s.2.2.2.2.2.2.1 s.2.2.2.1 s.2.1 (nI k) (nI B) mTape nam bo bn = st11 s' (nI k) bo nam ∧ (f_X4_readPeople pk pst pe tp (nI n) dbNames dpNames dfBoats dnB dnP).1 = false ∧ PD (f_X4_readPeople pk pst pe tp (nI n) dbNames dpNames dfBoats dnB dnP).2.2.2.2.2.2 s') := by
  have h2 : nI k < 2 := nI_lt (b := 2) hk (by decide)
  have hE : E_X4_readPeople_2 pk pst pe tp (nI n) dbNames dpNames dfBoats dnB dnP k = _ := (EEp_eq pk pst pe tp (nI n) dbNames dpNames dfBoats dnB dnP k).trans ((congrArg (EEp pk pst pe tp (nI n) dbNames dpNames dfBoats dnB dnP k) hl).trans EEp_rw)
  rw [if_pos h2] at hE
  rcases it_person hc hn (show k < 20 by omega) hB hb hbn h with ⟨o1, o2, b⟩ | ⟨o1, o2, d⟩ | ⟨o1, d⟩
  · rw [o1, o2] at hE
    have hL : (L_X4_readPeople_2 pk pst pe tp (nI n) dbNames dpNames dfBoats dnB dnP (k + 1)) = _ := (iter_s _ _ _).trans ((congrArg (G_X4_readPeople_2 pk pst pe tp (nI n) dbNames dpNames dfBoats dnB dnP k) hl).trans (Gp_rw (Or.inl h2) o1 o2))
    refine Or.inl ⟨_, _, _, _, ?_, fst_n hf hE, hL, b⟩
    rw [readPerson_eq, b.2.1.2.1, nI_1, nI_clamp (by omega)]
    rfl
  · rw [o1, o2] at hE
    refine Or.inr ⟨pz4 n mTape (nI k) (nI B) nam bn s, ?_, ?_⟩
    · rw [readPerson_eq, d.2]
      rfl
    · rw [Q_some (fst_s hf hE (by omega))]
      exact ⟨rfl, d⟩
  · rw [o1] at hE
    refine Or.inr ⟨pz4 n mTape (nI k) (nI B) nam bn s, ?_, ?_⟩
    · rw [readPerson_eq, d.2]
      rfl
    · rw [Q_some (fst_s hf hE (by omega))]
      exact ⟨rfl, d⟩
end PF
