/-! the boats of a setup text -/
noncomputable def EEb (pk : Int32) (pst : Int32) (pe : Int32) (tp : Nat → Int32) (tl : Int32) (dbNames : Nat → Int32) (dnB : Int32) (n : Nat) (sn : (Nat → Int32) × Int32 × Int32 × Int32 × Int32) : Option (Bool × (Nat → Int32) × Int32 × Int32 × Int32 × Int32) := (bif (f_X4_isKeyword (sn.2.2.2.1) (sn.2.2.2.2) (sn.2.2.1) tp tl 7) then (bif (f_X4_isName ((S_X4_readBoats_18 pk pst pe tp tl dbNames dnB n sn).2.1) ((S_X4_readBoats_18 pk pst pe tp tl dbNames dnB n sn).2.2) ((S_X4_readBoats_18 pk pst pe tp tl dbNames dnB n sn).1) tp tl) then (if (f_X7_boatNamed (sn.1) (sn.2.1) (f_X4_letters ((S_X4_readBoats_18 pk pst pe tp tl dbNames dnB n sn).2.2) ((S_X4_readBoats_18 pk pst pe tp tl dbNames dnB n sn).1) tp tl)) = (-2) then (bif (S_X4_readBoats_62 pk pst pe tp tl dbNames dnB n sn).1 then none else some (false, (S_X4_readBoats_54 pk pst pe tp tl dbNames dnB n sn).1, (S_X4_readBoats_54 pk pst pe tp tl dbNames dnB n sn).2, (S_X4_readBoats_62 pk pst pe tp tl dbNames dnB n sn).2.1, (S_X4_readBoats_62 pk pst pe tp tl dbNames dnB n sn).2.2.1, (S_X4_readBoats_62 pk pst pe tp tl dbNames dnB n sn).2.2.2)) else some (false, sn.1, sn.2.1, (S_X4_readBoats_18 pk pst pe tp tl dbNames dnB n sn).1, (S_X4_readBoats_18 pk pst pe tp tl dbNames dnB n sn).2.1, (S_X4_readBoats_18 pk pst pe tp tl dbNames dnB n sn).2.2)) else some (false, sn.1, sn.2.1, (S_X4_readBoats_18 pk pst pe tp tl dbNames dnB n sn).1, (S_X4_readBoats_18 pk pst pe tp tl dbNames dnB n sn).2.1, (S_X4_readBoats_18 pk pst pe tp tl dbNames dnB n sn).2.2)) else (bif (f_X4_isKeyword (sn.2.2.2.1) (sn.2.2.2.2) (sn.2.2.1) tp tl 7) then some (false, sn.1, sn.2.1, sn.2.2.1, sn.2.2.2.1, sn.2.2.2.2) else some (true, sn.1, sn.2.1, sn.2.2.1, sn.2.2.2.1, sn.2.2.2.2)))
theorem EEb_eq (pk : Int32) (pst : Int32) (pe : Int32) (tp : Nat → Int32) (tl : Int32) (dbNames : Nat → Int32) (dnB : Int32) (n : Nat) : E_X4_readBoats_2 pk pst pe tp tl dbNames dnB n = EEb pk pst pe tp tl dbNames dnB n (L_X4_readBoats_2 pk pst pe tp tl dbNames dnB n) := by
  unfold E_X4_readBoats_2 EEb
  exact rfl
section BO
variable {E : Int32} {n : Nat} {tp mTape : Nat → Int32} {u : Nat → Nat} {c : TC} {s : TT}
/-- a name looked up -/
theorem find_eq {f g : Nat → Int32} {k an : Nat} {nm : Int32} (hk : k ≤ an) (ha : an < 100) (h : ∀ i, i < k → f i = g i) : f_X7_find an f (nI k) nm = f_X12_named 1 nm g (nI k) := by
  unfold f_X7_find f_X12_named
  rw [nI_clamp (by omega), Nat.min_eq_left hk]
  refine congrArg (fun o : Option Int32 => o.getD (-2)) (fst_cong (R := Int32) (fun j hj => ?_))
  show E_X7_find_2 f nm j = E_X12_named_2 1 nm g j
  unfold E_X7_find_2 E_X12_named_2
  rw [nI_clamp (by omega), h j hj, if_pos rfl]
theorem named_res (g : Nat → Int32) (k : Nat) (hk : k < 100) (ki nm : Int32) : f_X12_named ki nm g (nI k) = -2 ∨ ∃ j, j < k ∧ f_X12_named ki nm g (nI k) = nI j ∧ ki = 1 := by
  unfold f_X12_named
  rw [nI_clamp (by omega)]
  have key : ∀ m, m ≤ k → fst_ (fun k => E_X12_named_2 ki nm g k) m = none ∨ ∃ j, j < m ∧ fst_ (fun k => E_X12_named_2 ki nm g k) m = some (nI j) ∧ ki = 1 := fun m => by
    induction m with
    | zero => exact fun _ => Or.inl (by rw [fst_])
    | succ m ih =>
      intro hm
      rcases ih (by omega) with q | ⟨j, q1, q2, q3⟩
      · by_cases a : ki = 1
        · by_cases b : g (nI m).toNatClampNeg = nm
          · exact Or.inr ⟨m, by omega, fst_s q (show E_X12_named_2 ki nm g m = some (nI m) by unfold E_X12_named_2; rw [if_pos a, if_pos b]) (Nat.lt_succ_self m), a⟩
          · exact Or.inl (fst_n q (show E_X12_named_2 ki nm g m = none by unfold E_X12_named_2; rw [if_pos a, if_neg b]))
        · exact Or.inl (fst_n q (show E_X12_named_2 ki nm g m = none by unfold E_X12_named_2; rw [if_neg a]))
      · exact Or.inr ⟨j, by omega, fst_keep q2 1, q3⟩
  rcases key k (Nat.le_refl _) with q | ⟨j, q1, q2, q3⟩
  · rw [q]
    exact Or.inl rfl
  · rw [q2]
    exact Or.inr ⟨j, q1, rfl, q3⟩
theorem named_neg (g : Nat → Int32) (k : Nat) (hk : k < 100) (ki nm : Int32) : (0 ≤ f_X12_named ki nm g (nI k)) ↔ ¬ f_X12_named ki nm g (nI k) = -2 := by
  rcases named_res g k hk ki nm with q | ⟨j, q1, q2, -⟩
  · rw [q]
    decide
  · rw [q2]
    refine ⟨fun _ z => ?_, fun _ => nI_pos' (by omega)⟩
    have h := congrArg Int32.toInt z
    rw [nI_toInt (by omega)] at h
    have e : (-2 : Int32).toInt = -2 := by decide
    omega
noncomputable def bz1 (n : Nat) (mTape : Nat → Int32) (nb : Int32) (s : TT) : TT := tkz n mTape s (J_X12_readBoat_9 nb)
noncomputable def bz2 (n : Nat) (mTape : Nat → Int32) (nb : Int32) (bn : Nat → Int32) (s : TT) : TT := tkz n mTape (bz1 n mTape nb s) (if (bz1 n mTape nb s).2.2.1 = 1 then (if 0 ≤ f_X12_named (bz1 n mTape nb s).2.2.1 (bz1 n mTape nb s).2.2.2.1 bn nb then false else true) else false)
noncomputable def bz3 (n : Nat) (mTape : Nat → Int32) (nb : Int32) (bn : Nat → Int32) (s : TT) : TT := semiz n mTape (bz2 n mTape nb bn s)
theorem sb17 (s : TT) (nb : Int32) : S_X12_readBoat_17 (nI n) s.1 s.2.2.2.2.1 s.2.2.2.2.2.1 s.2.2.1 s.2.2.2.2.2.2.2 s.2.2.2.2.2.2.1 s.2.2.2.1 s.2.1 nb mTape = bz1 n mTape nb s := by
  unfold S_X12_readBoat_17 bz1 tkz
  exact rfl
theorem sb51 (s : TT) (nb : Int32) (bn : Nat → Int32) : S_X12_readBoat_51 (nI n) s.1 s.2.2.2.2.1 s.2.2.2.2.2.1 s.2.2.1 s.2.2.2.2.2.2.2 s.2.2.2.2.2.2.1 s.2.2.2.1 s.2.1 nb mTape bn = bz2 n mTape nb bn s := by
  unfold S_X12_readBoat_51 J_X12_readBoat_31 bz2
  rw [sb17, tkz_def]
theorem sb68 (s : TT) (nb : Int32) (bn : Nat → Int32) : S_X12_readBoat_68 (nI n) s.1 s.2.2.2.2.1 s.2.2.2.2.2.1 s.2.2.1 s.2.2.2.2.2.2.2 s.2.2.2.2.2.2.1 s.2.2.2.1 s.2.1 nb mTape bn = bz3 n mTape nb bn s := by
  unfold S_X12_readBoat_68 J_X12_readBoat_60 bz3 semiz
  rw [sb51, tkz_def]
abbrev T10 := Int32 × Int32 × Int32 × Int32 × Int32 × Int32 × Int32 × Int32 × Int64 × (Nat → Int32)
def st10 (s : TT) (nb : Int32) (bn : Nat → Int32) : T10 := (s.1, s.2.1, s.2.2.1, s.2.2.2.1, nb, s.2.2.2.2.1, s.2.2.2.2.2.1, s.2.2.2.2.2.2.1, s.2.2.2.2.2.2.2, bn)
theorem readBoat_eq (s : TT) (nb : Int32) (bn : Nat → Int32) : f_X12_readBoat (nI n) s.1 s.2.2.2.2.1 s.2.2.2.2.2.1 s.2.2.1 s.2.2.2.2.2.2.2 s.2.2.2.2.2.2.1 s.2.2.2.1 s.2.1 nb mTape bn = bif tb (bz3 n mTape nb bn s).2.1 then st10 (bz3 n mTape nb bn s) (nb + 1) (upd bn nb.toNatClampNeg (bz1 n mTape nb s).2.2.2.1) else st10 (bz3 n mTape nb bn s) nb bn := by
  unfold f_X12_readBoat st10
  simp only [sb68, sb17]
theorem eta10 (t : T10) : (t.1, t.2.1, t.2.2.1, t.2.2.2.1, t.2.2.2.2.1, t.2.2.2.2.2.1, t.2.2.2.2.2.2.1, t.2.2.2.2.2.2.2.1, t.2.2.2.2.2.2.2.2.1, t.2.2.2.2.2.2.2.2.2) = t := by
  obtain ⟨a, b, k, l, m, r, st, v, w, z⟩ := t
  rfl
theorem T8_eq (s : TT) (nb : Int32) (bn : Nat → Int32) : T_X12_readAll_8 (nI n) mTape (st10 s nb bn) = bif f_X12_isWord s.2.2.1 s.2.2.2.2.2.2.2 s.2.1 80948 then .inl (bif tb (bz3 n mTape nb bn s).2.1 then st10 (bz3 n mTape nb bn s) (nb + 1) (upd bn nb.toNatClampNeg (bz1 n mTape nb s).2.2.2.1) else st10 (bz3 n mTape nb bn s) nb bn) else .inr (st10 s nb bn) := by
  have e : S_X12_readAll_19 (nI n) mTape (st10 s nb bn) = bif tb (bz3 n mTape nb bn s).2.1 then st10 (bz3 n mTape nb bn s) (nb + 1) (upd bn nb.toNatClampNeg (bz1 n mTape nb s).2.2.2.1) else st10 (bz3 n mTape nb bn s) nb bn := readBoat_eq s nb bn
  unfold T_X12_readAll_8
  rw [eta10 (S_X12_readAll_19 (nI n) mTape (st10 s nb bn)), eta10 (st10 s nb bn), e]
  unfold st10
  dsimp only
/-- k boats read on both sides -/
def BS (E : Int32) (n : Nat) (tp : Nat → Int32) (k : Nat) (sn : (Nat → Int32) × Int32 × TC) (s : TT) (bn : Nat → Int32) : Prop := sn.2.1 = nI k ∧ PL E n tp sn.2.2 s ∧ ∀ i, i < k → sn.1 i = bn i ∧ vp_in (bn i) (2 ^ 30)
theorem dead_b2 {e : Int32} {nb : Int32} {bn : Nat → Int32} (h : PD e (bz2 n mTape nb bn s)) : PD e (bz3 n mTape nb bn s) := semiz_dead h
theorem dead_b1 {e : Int32} {nb : Int32} {bn : Nat → Int32} (h : PD e (bz1 n mTape nb s)) : PD e (bz3 n mTape nb bn s) := dead_b2 (by unfold bz2; rw [tkz_dead h]; exact h)
variable {pk pst pe dnB : Int32} {dbNames : Nat → Int32}
theorem some_out {R : Option (Bool × (Nat → Int32) × Int32 × TC)} {a : Nat → Int32} {b : Int32} {x : TC} (q : R = some (false, a, b, x.1, x.2.1, x.2.2)) (d : PD x.2.2 s) : ∃ r, R = some r ∧ r.1 = false ∧ PD r.2.2.2.2.2 s := ⟨_, q, rfl, d⟩
theorem BS_mk {k : Nat} {a : Nat → Int32} {x : TC} {bn : Nat → Int32} {R : (Nat → Int32) × Int32 × TC} (q : R = (a, nI k, x.1, x.2.1, x.2.2)) (p : PL E n tp x s) (h : ∀ i, i < k → a i = bn i ∧ vp_in (bn i) (2 ^ 30)) : BS E n tp k R s bn := by
  rw [q]
  exact ⟨rfl, p, h⟩
theorem it_boat (hc : CH n tp mTape u) (hn : n ≤ 800) {k : Nat} (hk : k < 6) {sn : (Nat → Int32) × Int32 × TC} {bn : Nat → Int32} (h : BS E n tp k sn s bn) :
    (f_X12_isWord s.2.2.1 s.2.2.2.2.2.2.2 s.2.1 80948 = true ∧ EEb pk pst pe tp (nI n) dbNames dnB k sn = none ∧ BS E n tp (k + 1) (G_X4_readBoats_2 pk pst pe tp (nI n) dbNames dnB k sn) (bz3 n mTape (nI k) bn s) (upd bn k (bz1 n mTape (nI k) s).2.2.2.1)) ∨
    (f_X12_isWord s.2.2.1 s.2.2.2.2.2.2.2 s.2.1 80948 = true ∧ ∃ r, EEb pk pst pe tp (nI n) dbNames dnB k sn = some r ∧ r.1 = false ∧ PD r.2.2.2.2.2 (bz3 n mTape (nI k) bn s)) ∨
    (f_X12_isWord s.2.2.1 s.2.2.2.2.2.2.2 s.2.1 80948 = false ∧ EEb pk pst pe tp (nI n) dbNames dnB k sn = some (true, sn)) := by
  obtain ⟨h1, h2, h3⟩ := h
  have w := isWord_pl h2 (x := 7) (by decide)
  rw [show f_X12_isWord s.2.2.1 s.2.2.2.2.2.2.2 s.2.1 80948 = f_X12_isWord s.2.2.1 s.2.2.2.2.2.2.2 s.2.1 (Kx 7) from rfl, w]
  cases q : f_X4_isKeyword sn.2.2.2.1 sn.2.2.2.2 sn.2.2.1 tp (nI n) 7
  · refine Or.inr (Or.inr ⟨rfl, ?_⟩)
    unfold EEb
    simp only [q, cond_false]
  · have p1 : PL E n tp (S_X4_readBoats_18 pk pst pe tp (nI n) dbNames dnB k sn) (bz1 n mTape (nI k) s) := by
      unfold bz1 J_X12_readBoat_9 S_X4_readBoats_18
      rw [if_neg (show ¬ (6 : Int32) ≤ nI k from nI_ge (b := 6) hk (by decide))]
      exact tkz_ok hc hn h2
    have nmz := p1.2.2.2.2.2.2.2.2.2.2.1
    cases q2 : f_X4_isName (S_X4_readBoats_18 pk pst pe tp (nI n) dbNames dnB k sn).2.1 (S_X4_readBoats_18 pk pst pe tp (nI n) dbNames dnB k sn).2.2 (S_X4_readBoats_18 pk pst pe tp (nI n) dbNames dnB k sn).1 tp (nI n)
    · rw [q2] at nmz
      have hki : ¬ (bz1 n mTape (nI k) s).2.2.1 = 1 := of_decide_eq_false nmz.symm
      refine Or.inr (Or.inl ⟨rfl, some_out (x := (S_X4_readBoats_18 pk pst pe tp (nI n) dbNames dnB k sn)) (a := sn.1) (b := sn.2.1) ?_ (dead_b2 ?_)⟩)
      · unfold EEb
        simp only [q, q2, cond_true, cond_false]
      · unfold bz2
        rw [if_neg hki]
        exact (tkz_fail p1).1
    · rw [q2] at nmz
      have hki : (bz1 n mTape (nI k) s).2.2.1 = 1 := of_decide_eq_true nmz.symm
      obtain ⟨l1, l2⟩ := p1.2.2.2.2.2.2.2.2.2.2.2 hki
      have fe : f_X7_boatNamed sn.1 sn.2.1 (f_X4_letters (S_X4_readBoats_18 pk pst pe tp (nI n) dbNames dnB k sn).2.2 (S_X4_readBoats_18 pk pst pe tp (nI n) dbNames dnB k sn).1 tp (nI n)) = f_X12_named (bz1 n mTape (nI k) s).2.2.1 (bz1 n mTape (nI k) s).2.2.2.1 bn (nI k) := by
        rw [l1, h1, hki]
        exact find_eq (by omega) (by decide) (fun i hi => (h3 i hi).1)
      have nn := named_neg bn k (by omega) (bz1 n mTape (nI k) s).2.2.1 (bz1 n mTape (nI k) s).2.2.2.1
      by_cases q3 : f_X7_boatNamed sn.1 sn.2.1 (f_X4_letters (S_X4_readBoats_18 pk pst pe tp (nI n) dbNames dnB k sn).2.2 (S_X4_readBoats_18 pk pst pe tp (nI n) dbNames dnB k sn).1 tp (nI n)) = -2
      · have p2 : PL E n tp (S_X4_readBoats_58 pk pst pe tp (nI n) dbNames dnB k sn) (bz2 n mTape (nI k) bn s) := by
          unfold bz2 S_X4_readBoats_58
          rw [if_pos hki, if_neg (fun z => nn.mp z (fe.symm.trans q3))]
          exact tkz_ok hc hn p1
        have t : ((S_X4_readBoats_62 pk pst pe tp (nI n) dbNames dnB k sn).1 = true ∧ PL E n tp (S_X4_readBoats_62 pk pst pe tp (nI n) dbNames dnB k sn).2 (bz3 n mTape (nI k) bn s)) ∨ ((S_X4_readBoats_62 pk pst pe tp (nI n) dbNames dnB k sn).1 = false ∧ PD (S_X4_readBoats_62 pk pst pe tp (nI n) dbNames dnB k sn).2.2.2 (bz3 n mTape (nI k) bn s)) := by
          unfold S_X4_readBoats_62 bz3
          exact p_semi hc hn p2
        rcases t with ⟨o, p3⟩ | ⟨o, d⟩
        · refine Or.inl ⟨rfl, ?_, BS_mk (x := (S_X4_readBoats_62 pk pst pe tp (nI n) dbNames dnB k sn).2) (a := upd sn.1 k (bz1 n mTape (nI k) s).2.2.2.1) ?_ p3 ?_⟩
          · unfold EEb
            simp only [q, q2, if_pos q3, o, cond_true]
          · have e54 : (S_X4_readBoats_54 pk pst pe tp (nI n) dbNames dnB k sn) = (upd sn.1 k (bz1 n mTape (nI k) s).2.2.2.1, nI (k + 1)) := by
              unfold S_X4_readBoats_54 f_X7_addBoat
              rw [l1, h1, if_pos (show nI k < 6 from nI_lt (b := 6) hk (by decide)), setCell_nI (by decide) hk, nI_1]
            unfold G_X4_readBoats_2
            simp only [q, q2, if_pos q3, o, cond_true, e54]
          · intro i hi
            unfold upd
            by_cases z : i = k
            · rw [if_pos z, if_pos z]
              exact ⟨rfl, l2⟩
            · rw [if_neg z, if_neg z]
              exact h3 i (by omega)
        · refine Or.inr (Or.inl ⟨rfl, some_out (x := (S_X4_readBoats_62 pk pst pe tp (nI n) dbNames dnB k sn).2) (a := (S_X4_readBoats_54 pk pst pe tp (nI n) dbNames dnB k sn).1) (b := (S_X4_readBoats_54 pk pst pe tp (nI n) dbNames dnB k sn).2) ?_ d⟩)
          unfold EEb
          simp only [q, q2, if_pos q3, o, cond_true, cond_false]
      · refine Or.inr (Or.inl ⟨rfl, some_out (x := (S_X4_readBoats_18 pk pst pe tp (nI n) dbNames dnB k sn)) (a := sn.1) (b := sn.2.1) ?_ (dead_b2 ?_)⟩)
        · unfold EEb
          simp only [q, q2, if_neg q3, cond_true]
        · unfold bz2
          rw [if_pos hki, if_pos (nn.mpr (fun z => q3 (fe.trans z)))]
          exact (tkz_fail p1).1
end BO
