/-! one iteration of the people, as the class's loop has it -/
noncomputable def EEp (pk : Int32) (pst : Int32) (pe : Int32) (tp : Nat → Int32) (tl : Int32) (dbNames : Nat → Int32) (dpNames : Nat → Int32) (dfBoats : Nat → Int32) (dnB : Int32) (dnP : Int32) (n : Nat) (sn : (Nat → Int32) × Int32 × (Nat → Int32) × TC) : Option (Bool × (Nat → Int32) × Int32 × (Nat → Int32) × Int32 × Int32 × Int32) := (if (nI n) < 2 then (bif (S_X4_readPeople_25 pk pst pe tp tl dbNames dpNames dfBoats dnB dnP n sn).1 then (bif (S_X4_readPeople_32 pk pst pe tp tl dbNames dpNames dfBoats dnB dnP n sn).1 then none else some (false, (S_X4_readPeople_32 pk pst pe tp tl dbNames dpNames dfBoats dnB dnP n sn).2.1, (S_X4_readPeople_32 pk pst pe tp tl dbNames dpNames dfBoats dnB dnP n sn).2.2.1, (S_X4_readPeople_32 pk pst pe tp tl dbNames dpNames dfBoats dnB dnP n sn).2.2.2.1, (S_X4_readPeople_32 pk pst pe tp tl dbNames dpNames dfBoats dnB dnP n sn).2.2.2.2.1, (S_X4_readPeople_32 pk pst pe tp tl dbNames dpNames dfBoats dnB dnP n sn).2.2.2.2.2.1, (S_X4_readPeople_32 pk pst pe tp tl dbNames dpNames dfBoats dnB dnP n sn).2.2.2.2.2.2)) else some (false, sn.1, sn.2.1, sn.2.2.1, (S_X4_readPeople_25 pk pst pe tp tl dbNames dpNames dfBoats dnB dnP n sn).2.1, (S_X4_readPeople_25 pk pst pe tp tl dbNames dpNames dfBoats dnB dnP n sn).2.2.1, (S_X4_readPeople_25 pk pst pe tp tl dbNames dpNames dfBoats dnB dnP n sn).2.2.2)) else (if sn.2.2.2.2.1 = 0 then some (true, sn.1, sn.2.1, sn.2.2.1, sn.2.2.2.1, sn.2.2.2.2.1, sn.2.2.2.2.2) else (bif (S_X4_readPeople_25a pk pst pe tp tl dbNames dpNames dfBoats dnB dnP n sn).1 then (bif (S_X4_readPeople_32a pk pst pe tp tl dbNames dpNames dfBoats dnB dnP n sn).1 then none else some (false, (S_X4_readPeople_32a pk pst pe tp tl dbNames dpNames dfBoats dnB dnP n sn).2.1, (S_X4_readPeople_32a pk pst pe tp tl dbNames dpNames dfBoats dnB dnP n sn).2.2.1, (S_X4_readPeople_32a pk pst pe tp tl dbNames dpNames dfBoats dnB dnP n sn).2.2.2.1, (S_X4_readPeople_32a pk pst pe tp tl dbNames dpNames dfBoats dnB dnP n sn).2.2.2.2.1, (S_X4_readPeople_32a pk pst pe tp tl dbNames dpNames dfBoats dnB dnP n sn).2.2.2.2.2.1, (S_X4_readPeople_32a pk pst pe tp tl dbNames dpNames dfBoats dnB dnP n sn).2.2.2.2.2.2)) else some (false, sn.1, sn.2.1, sn.2.2.1, (S_X4_readPeople_25a pk pst pe tp tl dbNames dpNames dfBoats dnB dnP n sn).2.1, (S_X4_readPeople_25a pk pst pe tp tl dbNames dpNames dfBoats dnB dnP n sn).2.2.1, (S_X4_readPeople_25a pk pst pe tp tl dbNames dpNames dfBoats dnB dnP n sn).2.2.2))))
theorem EEp_eq (pk : Int32) (pst : Int32) (pe : Int32) (tp : Nat → Int32) (tl : Int32) (dbNames : Nat → Int32) (dpNames : Nat → Int32) (dfBoats : Nat → Int32) (dnB : Int32) (dnP : Int32) (n : Nat) : E_X4_readPeople_2 pk pst pe tp tl dbNames dpNames dfBoats dnB dnP n = EEp pk pst pe tp tl dbNames dpNames dfBoats dnB dnP n (L_X4_readPeople_2 pk pst pe tp tl dbNames dpNames dfBoats dnB dnP n) := by
  unfold E_X4_readPeople_2 EEp
  exact rfl
section PC
variable {n : Nat} {tp : Nat → Int32} {pk pst pe dnB dnP : Int32} {dbNames dpNames dfBoats : Nat → Int32} {k : Nat} {sn : (Nat → Int32) × Int32 × (Nat → Int32) × TC}
theorem sx25 : S_X4_readPeople_25 pk pst pe tp (nI n) dbNames dpNames dfBoats dnB dnP k sn = (kwP n tp sn) := by unfold S_X4_readPeople_25 kwP; rfl
theorem sx25a : S_X4_readPeople_25a pk pst pe tp (nI n) dbNames dpNames dfBoats dnB dnP k sn = (kwP n tp sn) := by unfold S_X4_readPeople_25a kwP; rfl
theorem sx32 : S_X4_readPeople_32 pk pst pe tp (nI n) dbNames dpNames dfBoats dnB dnP k sn = (rpP n tp dbNames dnB sn) := by unfold S_X4_readPeople_32 rpP; rw [sx25]
theorem sx32a : S_X4_readPeople_32a pk pst pe tp (nI n) dbNames dpNames dfBoats dnB dnP k sn = (rpP n tp dbNames dnB sn) := by unfold S_X4_readPeople_32a rpP; rw [sx25a]
theorem eta6 (t : (Nat → Int32) × Int32 × (Nat → Int32) × TC) : (t.1, t.2.1, t.2.2.1, t.2.2.2.1, t.2.2.2.2.1, t.2.2.2.2.2) = t := by
  obtain ⟨a, b, c, d, e, f⟩ := t
  rfl
theorem EEp_rw : EEp pk pst pe tp (nI n) dbNames dpNames dfBoats dnB dnP k sn = if nI k < 2 then (bif (kwP n tp sn).1 then (bif (rpP n tp dbNames dnB sn).1 then none else some (false, (rpP n tp dbNames dnB sn).2)) else some (false, sn.1, sn.2.1, sn.2.2.1, (kwP n tp sn).2)) else (if sn.2.2.2.2.1 = 0 then some (true, sn) else (bif (kwP n tp sn).1 then (bif (rpP n tp dbNames dnB sn).1 then none else some (false, (rpP n tp dbNames dnB sn).2)) else some (false, sn.1, sn.2.1, sn.2.2.1, (kwP n tp sn).2))) := by
  unfold EEp
  rw [sx25, sx25a, sx32, sx32a]
theorem Gp_rw (h1 : nI k < 2 ∨ ¬ sn.2.2.2.2.1 = 0) (h2 : (kwP n tp sn).1 = true) (h3 : (rpP n tp dbNames dnB sn).1 = true) : G_X4_readPeople_2 pk pst pe tp (nI n) dbNames dpNames dfBoats dnB dnP k sn = (rpP n tp dbNames dnB sn).2 := by
  unfold G_X4_readPeople_2
  rw [sx25, sx25a, sx32, sx32a, h2, h3, cond_true, cond_true]
  generalize (rpP n tp dbNames dnB sn) = b
  rw [eta6 b.2]
  by_cases q : nI k < 2
  · rw [if_pos q]
  · rw [if_neg q]
    rcases h1 with h1 | h1
    · exact absurd h1 q
    · rw [if_neg h1]
end PC
