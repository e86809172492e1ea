def num0 : Nat → Int32 := (upd (upd (upd (upd (upd (upd (upd (upd (upd (upd z0 0 90) 1 50) 2 50) 3 50) 4 50) 5 1) 6 1) 7 1) 8 3) 9 1)
def nam0 : Nat → Int32 := (upd (upd z0 0 33554432) 1 67108864)
def fst0 : Nat → Int32 := (upd (upd z0 0 (-2)) 1 (-2))
theorem sc_10 (f : Nat → Int32) (v : Int32) {i : Nat} (hi : i < 10) : f_X7_setNumber f (nI i) v = upd f i v := setCell_nI (by decide) hi
theorem fv_eq : f_X7_makeFirstVillage z0 z0 z0 = (fst0, 0, 2, num0, nam0) := by
  have a1 : f_X7_addPerson z0 z0 (f_X7_clear).2 33554432 (-2) = (upd z0 0 (-2), 1, upd z0 0 33554432) := by
    have e1 : ∀ v, f_X11_setCell 20 z0 0 v = upd z0 0 v := fun v => setCell_nI (n := 20) (i := 0) (by decide) (by decide)
    show (if (0 : Int32) < 20 then (f_X11_setCell 20 z0 0 (-2), (0 : Int32) + 1, f_X11_setCell 20 z0 0 33554432) else (z0, 0, z0)) = _
    rw [if_pos (by decide), e1, e1]
    rfl
  have a2 : f_X7_addPerson (upd z0 0 33554432) (upd z0 0 (-2)) 1 67108864 (-2) = (fst0, 2, nam0) := by
    have e1 : ∀ (f : Nat → Int32) v, f_X11_setCell 20 f 1 v = upd f 1 v := fun f v => setCell_nI (n := 20) (i := 1) (by decide) (by decide)
    show (if (1 : Int32) < 20 then (f_X11_setCell 20 (upd z0 0 (-2)) 1 (-2), (1 : Int32) + 1, f_X11_setCell 20 (upd z0 0 33554432) 1 67108864) else (upd z0 0 (-2), 1, upd z0 0 33554432)) = _
    rw [if_pos (by decide), e1, e1]
    rfl
  have a3 : (f_X7_setNumber (f_X7_setNumber (f_X7_setNumber (f_X7_setNumber (f_X7_setNumber (f_X7_setNumber (f_X7_setNumber (f_X7_setNumber (f_X7_setNumber (f_X7_setNumber z0 0 90) (1 + 0) 50) (1 + 1) 50) (1 + 2) 50) (1 + 3) 50) 5 1) 6 1) 7 1) 8 3) 9 1) = num0 := by
    have s : ∀ (f : Nat → Int32) v, f_X7_setNumber f 0 v = upd f 0 v := fun f v => sc_10 f v (i := 0) (by decide)
    have s1 : ∀ (f : Nat → Int32) v, f_X7_setNumber f (1 + 0) v = upd f 1 v := fun f v => sc_10 f v (i := 1) (by decide)
    have s2 : ∀ (f : Nat → Int32) v, f_X7_setNumber f (1 + 1) v = upd f 2 v := fun f v => sc_10 f v (i := 2) (by decide)
    have s3 : ∀ (f : Nat → Int32) v, f_X7_setNumber f (1 + 2) v = upd f 3 v := fun f v => sc_10 f v (i := 3) (by decide)
    have s4 : ∀ (f : Nat → Int32) v, f_X7_setNumber f (1 + 3) v = upd f 4 v := fun f v => sc_10 f v (i := 4) (by decide)
    have s5 : ∀ (f : Nat → Int32) v, f_X7_setNumber f 5 v = upd f 5 v := fun f v => sc_10 f v (i := 5) (by decide)
    have s6 : ∀ (f : Nat → Int32) v, f_X7_setNumber f 6 v = upd f 6 v := fun f v => sc_10 f v (i := 6) (by decide)
    have s7 : ∀ (f : Nat → Int32) v, f_X7_setNumber f 7 v = upd f 7 v := fun f v => sc_10 f v (i := 7) (by decide)
    have s8 : ∀ (f : Nat → Int32) v, f_X7_setNumber f 8 v = upd f 8 v := fun f v => sc_10 f v (i := 8) (by decide)
    have s9 : ∀ (f : Nat → Int32) v, f_X7_setNumber f 9 v = upd f 9 v := fun f v => sc_10 f v (i := 9) (by decide)
    rw [s, s1, s2, s3, s4, s5, s6, s7, s8, s9]
    exact (rfl : num0 = num0)
  unfold f_X7_makeFirstVillage
  rw [a1]
  show (_, _, _, _, _) = _
  rw [a2, a3]
  exact (rfl : (fst0, (0 : Int32), (2 : Int32), num0, nam0) = (fst0, 0, 2, num0, nam0))
theorem su_first0 : RSu 2 0 2 num0 z0 nam0 fst0 0 2 2 0 num0 nam0 fst0 z0 := by
  have n0 : num0 0 = nI 90 := rfl
  have n1 : num0 1 = nI 50 := rfl
  have n2 : num0 2 = nI 50 := rfl
  have n3 : num0 3 = nI 50 := rfl
  have n4 : num0 4 = nI 50 := rfl
  have n5 : num0 5 = nI 1 := rfl
  have n6 : num0 6 = nI 1 := rfl
  have n7 : num0 7 = nI 1 := rfl
  have n8 : num0 8 = nI 3 := rfl
  have n9 : num0 9 = nI 1 := rfl
  have v : ∀ {a n : Nat}, a < n → n < 2 ^ 31 → vp_in (nI a) n := fun h1 h2 => vp_in_nI h1 h2
  refine ⟨rfl, rfl, rfl, rfl, ⟨by decide, by decide⟩, by decide, fun _ _ => rfl, ⟨by rw [n0]; exact v (by decide) (by decide), by rw [n0]; decide⟩, ?_, by rw [n5]; exact v (by decide) (by decide), ⟨by rw [n6]; exact v (by decide) (by decide), by rw [n6]; decide⟩, by rw [n7]; exact v (by decide) (by decide), by rw [n8]; exact v (by decide) (by decide), ⟨by rw [n9]; exact v (by decide) (by decide), by rw [n9]; rfl⟩, ?_, fun i hi => absurd hi (Nat.not_lt_zero _)⟩
  · intro i hi
    rcases (show i = 0 ∨ i = 1 ∨ i = 2 ∨ i = 3 by omega) with q | q | q | q
    · subst q; rw [n1]; exact v (by decide) (by decide)
    · subst q; rw [show 1 + 1 = 2 from rfl, n2]; exact v (by decide) (by decide)
    · subst q; rw [show 1 + 2 = 3 from rfl, n3]; exact v (by decide) (by decide)
    · subst q; rw [show 1 + 3 = 4 from rfl, n4]; exact v (by decide) (by decide)
  · intro p hp
    rcases (show p = 0 ∨ p = 1 by omega) with q | q
    · subst q
      exact ⟨rfl, (show nam0 0 = nI 33554432 from rfl) ▸ v (by decide) (by decide), rfl, Or.inl rfl⟩
    · subst q
      exact ⟨rfl, (show nam0 1 = nI 67108864 from rfl) ▸ v (by decide) (by decide), rfl, Or.inl rfl⟩
theorem su_first : RSu 2 0 2 ((f_X10_beginTheFirstOne z0 z0 z0 z0 z0 z0 z0 z0 z0 z0 z0 z0 z0 z0 z0).2.2.2.2.2.2.2.2.2.2.2.2.2.2.2.2.2.2.1) z0 ((f_X10_beginTheFirstOne z0 z0 z0 z0 z0 z0 z0 z0 z0 z0 z0 z0 z0 z0 z0).2.2.2.2.2.2.2.2.2.2.2.2.2.2.2.2.2.2.2.1) ((f_X10_beginTheFirstOne z0 z0 z0 z0 z0 z0 z0 z0 z0 z0 z0 z0 z0 z0 z0).2.2.2.2.2.2.2.2.2.2.1) ((f_X10_beginTheFirstOne z0 z0 z0 z0 z0 z0 z0 z0 z0 z0 z0 z0 z0 z0 z0).2.2.2.2.2.2.2.2.2.2.2.2.2.2.2.2.1) ((f_X10_beginTheFirstOne z0 z0 z0 z0 z0 z0 z0 z0 z0 z0 z0 z0 z0 z0 z0).2.2.2.2.2.2.2.2.2.2.2.2.2.2.2.2.2.1) 2 0 (upd (upd (upd (upd (upd (upd (upd (upd (upd (upd z0 0 90) 1 50) 2 50) 3 50) 4 50) 5 1) 6 1) 7 1) 8 3) 9 1) (upd (upd z0 0 33554432) 1 67108864) (upd (upd z0 0 (-2)) 1 (-2)) z0 := by
  have q1 : ((f_X10_beginTheFirstOne z0 z0 z0 z0 z0 z0 z0 z0 z0 z0 z0 z0 z0 z0 z0).2.2.2.2.2.2.2.2.2.2.2.2.2.2.2.2.2.2.1) = num0 := (show _ = (f_X7_makeFirstVillage z0 z0 z0).2.2.2.1 from rfl).trans (congrArg (·.2.2.2.1) fv_eq)
  have q2 : ((f_X10_beginTheFirstOne z0 z0 z0 z0 z0 z0 z0 z0 z0 z0 z0 z0 z0 z0 z0).2.2.2.2.2.2.2.2.2.2.2.2.2.2.2.2.2.2.2.1) = nam0 := (show _ = (f_X7_makeFirstVillage z0 z0 z0).2.2.2.2 from rfl).trans (congrArg (·.2.2.2.2) fv_eq)
  have q3 : ((f_X10_beginTheFirstOne z0 z0 z0 z0 z0 z0 z0 z0 z0 z0 z0 z0 z0 z0 z0).2.2.2.2.2.2.2.2.2.2.1) = fst0 := (show _ = (f_X7_makeFirstVillage z0 z0 z0).1 from rfl).trans (congrArg (·.1) fv_eq)
  have q4 : ((f_X10_beginTheFirstOne z0 z0 z0 z0 z0 z0 z0 z0 z0 z0 z0 z0 z0 z0 z0).2.2.2.2.2.2.2.2.2.2.2.2.2.2.2.2.1) = 0 := (show _ = (f_X7_makeFirstVillage z0 z0 z0).2.1 from rfl).trans (congrArg (·.2.1) fv_eq)
  have q5 : ((f_X10_beginTheFirstOne z0 z0 z0 z0 z0 z0 z0 z0 z0 z0 z0 z0 z0 z0 z0).2.2.2.2.2.2.2.2.2.2.2.2.2.2.2.2.2.1) = 2 := (show _ = (f_X7_makeFirstVillage z0 z0 z0).2.2.1 from rfl).trans (congrArg (·.2.2.1) fv_eq)
  rw [q1, q2, q3, q4, q5]
  exact su_first0
theorem st_first : RSt 0 2 0 2 ((f_X10_beginTheFirstOne z0 z0 z0 z0 z0 z0 z0 z0 z0 z0 z0 z0 z0 z0 z0).2.2.2.2.2.2.2.1) ((f_X10_beginTheFirstOne z0 z0 z0 z0 z0 z0 z0 z0 z0 z0 z0 z0 z0 z0 z0).2.2.2.2.2.2.2.2.2.2.2.2.2.2.2.2.2.2.2.2.2.2.2.2.2.2) ((f_X10_beginTheFirstOne z0 z0 z0 z0 z0 z0 z0 z0 z0 z0 z0 z0 z0 z0 z0).2.2.2.2.2.2.2.2.2.2.2.2.2.1) ((f_X10_beginTheFirstOne z0 z0 z0 z0 z0 z0 z0 z0 z0 z0 z0 z0 z0 z0 z0).2.1) ((f_X10_beginTheFirstOne z0 z0 z0 z0 z0 z0 z0 z0 z0 z0 z0 z0 z0 z0 z0).2.2.2.2.2.2.2.2.2.2.2.2.2.2.1) ((f_X10_beginTheFirstOne z0 z0 z0 z0 z0 z0 z0 z0 z0 z0 z0 z0 z0 z0 z0).2.2.2.2.2.2.2.2.2.2.2.2.2.2.2.2.2.2.2.2.2.2.1) ((f_X10_beginTheFirstOne z0 z0 z0 z0 z0 z0 z0 z0 z0 z0 z0 z0 z0 z0 z0).2.2.2.2.2.2.2.2.2.2.2.2.1) ((f_X10_beginTheFirstOne z0 z0 z0 z0 z0 z0 z0 z0 z0 z0 z0 z0 z0 z0 z0).2.2.2.2.2.2.1) ((f_X10_beginTheFirstOne z0 z0 z0 z0 z0 z0 z0 z0 z0 z0 z0 z0 z0 z0 z0).2.2.2.1) ((f_X10_beginTheFirstOne z0 z0 z0 z0 z0 z0 z0 z0 z0 z0 z0 z0 z0 z0 z0).2.2.2.2.2.2.2.2.2.2.2.2.2.2.2.2.2.2.2.2.2.2.2.2.2.1) ((f_X10_beginTheFirstOne z0 z0 z0 z0 z0 z0 z0 z0 z0 z0 z0 z0 z0 z0 z0).2.2.2.2.2.2.2.2.2.2.2.1) ((f_X10_beginTheFirstOne z0 z0 z0 z0 z0 z0 z0 z0 z0 z0 z0 z0 z0 z0 z0).2.2.2.2.2.2.2.2.1) ((f_X10_beginTheFirstOne z0 z0 z0 z0 z0 z0 z0 z0 z0 z0 z0 z0 z0 z0 z0).1) ((f_X10_beginTheFirstOne z0 z0 z0 z0 z0 z0 z0 z0 z0 z0 z0 z0 z0 z0 z0).2.2.2.2.2.2.2.2.2.2.2.2.2.2.2.2.2.2.2.2.2.2.2.2.1) ((f_X10_beginTheFirstOne z0 z0 z0 z0 z0 z0 z0 z0 z0 z0 z0 z0 z0 z0 z0).2.2.2.2.2.2.2.2.2.2.2.2.2.2.2.2.2.2.2.2.2.1) ((f_X10_beginTheFirstOne z0 z0 z0 z0 z0 z0 z0 z0 z0 z0 z0 z0 z0 z0 z0).2.2.2.2.2.1) ((f_X10_beginTheFirstOne z0 z0 z0 z0 z0 z0 z0 z0 z0 z0 z0 z0 z0 z0 z0).2.2.1) ((f_X10_beginTheFirstOne z0 z0 z0 z0 z0 z0 z0 z0 z0 z0 z0 z0 z0 z0 z0).2.2.2.2.1) ((f_X10_beginTheFirstOne z0 z0 z0 z0 z0 z0 z0 z0 z0 z0 z0 z0 z0 z0 z0).2.2.2.2.2.2.2.2.2.1) ((f_X10_beginTheFirstOne z0 z0 z0 z0 z0 z0 z0 z0 z0 z0 z0 z0 z0 z0 z0).2.2.2.2.2.2.2.2.2.2.2.2.2.2.2.2.2.2.2.2.2.2.2.1) z0 ((f_X10_beginTheFirstOne z0 z0 z0 z0 z0 z0 z0 z0 z0 z0 z0 z0 z0 z0 z0).2.2.2.2.2.2.2.2.2.2.2.2.2.2.2.2.2.2.2.2.1) z0 ((f_X10_beginTheFirstOne z0 z0 z0 z0 z0 z0 z0 z0 z0 z0 z0 z0 z0 z0 z0).2.2.2.2.2.2.2.2.2.2.2.2.2.2.2.1) ((f_X12_clear 2 (upd (upd z0 0 (-2)) 1 (-2)) z0 z0).2.2) :=
  st_begin su_first z0 z0 z0 z0 z0 z0 z0 z0 z0 z0 z0 z0 z0 z0 z0
theorem ke_first (kpF : Nat → StT) (mSl : Nat → Int32) : RKe 0 2 0 2 z0 kpF ((f_X12_clear 2 (upd (upd z0 0 (-2)) 1 (-2)) z0 z0).1) mSl :=
  ke_none kpF mSl 0 (fun _ _ => rfl) (fun s hs => by
    show upd (upd z0 0 (vp_nar .boolean 0)) 1 (vp_nar .boolean 0) s = 0
    rw [show vp_nar .boolean 0 = 0 by decide]
    unfold upd
    split
    · rfl
    · split
      · rfl
      · rfl)
theorem hi_first (hsF : Nat → StT) (mUn : Nat → Int32) : RHi 0 2 0 2 0 0 hsF 0 mUn := hi_none 0 hsF mUn (x := 0) rfl (by decide) 0
theorem tp_first : RTp z0 0 0 z0 := ⟨0, rfl, rfl, Nat.zero_le _, fun i hi => absurd hi (Nat.not_lt_zero _)⟩
