/-! one person, from the word `person` on -/
section PI
variable {E : Int32} {n : Nat} {tp mTape : Nat → Int32} {u : Nat → Nat} {s : TT} {dnB : Int32} {dbNames bo nam bn : Nat → Int32} {B k : Nat}
noncomputable def kwP (n : Nat) (tp : Nat → Int32) (sn : (Nat → Int32) × Int32 × (Nat → Int32) × TC) : Bool × TC := f_X4_skipKeyword sn.2.2.2.2.1 sn.2.2.2.2.2 sn.2.2.2.1 tp (nI n) 8
noncomputable def rpP (n : Nat) (tp dbNames : Nat → Int32) (dnB : Int32) (sn : (Nat → Int32) × Int32 × (Nat → Int32) × TC) : Bool × (Nat → Int32) × Int32 × (Nat → Int32) × TC := f_X4_readPerson (kwP n tp sn).2.2.1 (kwP n tp sn).2.2.2 (kwP n tp sn).2.1 tp (nI n) dbNames sn.2.2.1 sn.1 dnB sn.2.1
/-- k people read on both sides -/
def PS (B : Nat) (E : Int32) (n : Nat) (tp : Nat → Int32) (k : Nat) (sn : (Nat → Int32) × Int32 × (Nat → Int32) × TC) (s : TT) (bo nam : Nat → Int32) : Prop := sn.2.1 = nI k ∧ PL E n tp sn.2.2.2 s ∧ ∀ i, i < k → sn.1 i = bo i ∧ sn.2.2.1 i = nam i ∧ vp_in (nam i) (2 ^ 30) ∧ (bo i = -2 ∨ vp_in (bo i) B)
theorem PS_up {sn : (Nat → Int32) × Int32 × (Nat → Int32) × TC} {R : (Nat → Int32) × Int32 × (Nat → Int32) × TC} {s s' : TT} {a b : Int32} (h : PS B E n tp k sn s bo nam) (r1 : R.1 = upd sn.1 k a) (r2 : R.2.1 = nI (k + 1)) (r3 : R.2.2.1 = upd sn.2.2.1 k b) (r4 : vp_in b (2 ^ 30)) (r5 : a = -2 ∨ vp_in a B) (r6 : PL E n tp R.2.2.2 s') : PS B E n tp (k + 1) R s' (upd bo k a) (upd nam k b) := by
  refine ⟨r2, r6, fun i hi => ?_⟩
  rw [r1, r3]
  by_cases z : i = k
  · rw [z, upd_eq, upd_eq, upd_eq, upd_eq]
    exact ⟨rfl, rfl, r4, r5⟩
  · rw [upd_ne z, upd_ne z, upd_ne z, upd_ne z]
    exact h.2.2 i (by omega)
theorem it_person (hc : CH n tp mTape u) (hn : n ≤ 800) (hk : k < 20) (hB : B ≤ 6) (hb : dnB = nI B) (hbn : ∀ i, i < B → dbNames i = bn i) {sn : (Nat → Int32) × Int32 × (Nat → Int32) × TC} (h : PS B E n tp k sn s bo nam) :
    ((kwP n tp sn).1 = true ∧ (rpP n tp dbNames dnB sn).1 = true ∧ PS B E n tp (k + 1) (rpP n tp dbNames dnB sn).2 (pz4 n mTape (nI k) (nI B) nam bn s) (upd bo k (jzz n mTape (nI B) bn (pz2 n mTape (nI k) nam s)).1) (upd nam k (pz1 n mTape (nI k) s).2.2.2.1)) ∨
    ((kwP n tp sn).1 = true ∧ (rpP n tp dbNames dnB sn).1 = false ∧ PD (rpP n tp dbNames dnB sn).2.2.2.2.2.2 (pz4 n mTape (nI k) (nI B) nam bn s)) ∨
    ((kwP n tp sn).1 = false ∧ PD (kwP n tp sn).2.2.2 (pz4 n mTape (nI k) (nI B) nam bn s)) := by
  have w := isWord_pl h.2.1 (x := 8) (by decide)
  have hkw : ((kwP n tp sn).1 = true ∧ PL E n tp (kwP n tp sn).2 (pz1 n mTape (nI k) s)) ∨ ((kwP n tp sn).1 = false ∧ PD (kwP n tp sn).2.2.2 (pz1 n mTape (nI k) s)) := by
    unfold kwP f_X4_skipKeyword pz1 J_X12_readPerson_13
    rw [show f_X12_isWord s.2.2.1 s.2.2.2.2.2.2.2 s.2.1 542723566 = f_X4_isKeyword sn.2.2.2.2.1 sn.2.2.2.2.2 sn.2.2.2.1 tp (nI n) 8 from w]
    cases f_X4_isKeyword sn.2.2.2.2.1 sn.2.2.2.2.2 sn.2.2.2.1 tp (nI n) 8
    · exact Or.inr ⟨rfl, (tkz_fail h.2.1).1⟩
    · rw [if_neg (show ¬ (20 : Int32) ≤ nI k from nI_ge (b := 20) hk (by decide))]
      exact Or.inl ⟨rfl, tkz_ok hc hn h.2.1⟩
  rcases hkw with ⟨o, p⟩ | ⟨o, d⟩
  · have t := p_person (dnB := dnB) (nP := sn.2.1) (dbNames := dbNames) (pN := sn.2.2.1) (fB := sn.1) (nam := nam) (bn := bn) (B := B) (k := k) hc hn p hk h.1 hB hb (fun i hi => (h.2.2 i hi).2.1) hbn
    rcases t with ⟨r1, r2, r3, r4, r5, r6, r7⟩ | ⟨r1, d⟩
    · exact Or.inl ⟨o, r1, PS_up (R := (rpP n tp dbNames dnB sn).2) h r2 r3 r4 r5 r6 r7⟩
    · exact Or.inr (Or.inl ⟨o, r1, d⟩)
  · exact Or.inr (Or.inr ⟨o, dead_p1 d⟩)
end PI
