/-! THE SETUP TEXT READ: boats, people, the whole -/
theorem find_none {an k : Nat} {f : Nat → Int32} {nm : Int32} (hk : k ≤ an) (ha : an < 100) (h : ∀ i, i < k → ¬ f i = nm) : f_X7_find an f (nI k) nm = -2 := by
  unfold f_X7_find
  rw [nI_clamp (by omega), Nat.min_eq_left hk, fst_no (fun j hj => by
    show E_X7_find_2 f nm j = none
    unfold E_X7_find_2
    rw [nI_clamp (by omega), if_neg (h j hj)])]
  rfl
theorem find_at {an k b : Nat} {f : Nat → Int32} {nm : Int32} (hk : k ≤ an) (ha : an < 100) (hb : b < k) (h : f b = nm) (hne : ∀ i, i < b → ¬ f i = nm) : f_X7_find an f (nI k) nm = nI b := by
  unfold f_X7_find
  rw [nI_clamp (by omega), Nat.min_eq_left hk, fst_s (n := b) (r := nI b) (fst_no (fun j hj => by
    show E_X7_find_2 f nm j = none
    unfold E_X7_find_2
    rw [nI_clamp (by omega), if_neg (hne j hj)])) (by
    show E_X7_find_2 f nm b = some (nI b)
    unfold E_X7_find_2
    rw [nI_clamp (by omega), if_pos h]) hb]
  rfl
section GRB
variable {n : Nat} {tp : Nat → Int32} {pk pst pe dnB dnP : Int32} {dbNames dpNames dfBoats : Nat → Int32} {j : Nat}
theorem bt_gen {bn : Nat → Int32} {k : Nat} {nm : Int32} {t0 t1 t2 t3 : TC} (hk : k < 6) (hkw : f_X4_isKeyword t0.2.1 t0.2.2 t0.1 tp (nI n) 7 = true) (e18 : f_X4_advance t0.1 tp (nI n) = t1) (hn : f_X4_isName t1.2.1 t1.2.2 t1.1 tp (nI n) = true) (hl : f_X4_letters t1.2.2 t1.1 tp (nI n) = nm) (e58 : f_X4_advance t1.1 tp (nI n) = t2) (e62 : f_X4_skipSemicolon t2.2.1 t2.2.2 t2.1 tp (nI n) = (true, t3)) (hb : f_X7_boatNamed bn (nI k) nm = -2) :
    EEb pk pst pe tp (nI n) dbNames dnB j (bn, nI k, t0) = none ∧ G_X4_readBoats_2 pk pst pe tp (nI n) dbNames dnB j (bn, nI k, t0) = (upd bn k nm, nI (k + 1), t3) := by
  have s18 : S_X4_readBoats_18 pk pst pe tp (nI n) dbNames dnB j (bn, nI k, t0) = t1 := e18
  have s54 : S_X4_readBoats_54 pk pst pe tp (nI n) dbNames dnB j (bn, nI k, t0) = (upd bn k nm, nI (k + 1)) := by
    unfold S_X4_readBoats_54
    rw [s18, hl]
    show f_X7_addBoat bn (nI k) nm = _
    unfold f_X7_addBoat
    rw [if_pos (show nI k < 6 from nI_lt (b := 6) hk (by decide)), setCell_nI (by decide) hk, nI_1]
  have s58 : S_X4_readBoats_58 pk pst pe tp (nI n) dbNames dnB j (bn, nI k, t0) = t2 := by
    unfold S_X4_readBoats_58
    rw [s18, e58]
  have s62 : S_X4_readBoats_62 pk pst pe tp (nI n) dbNames dnB j (bn, nI k, t0) = (true, t3) := by
    unfold S_X4_readBoats_62
    rw [s58, e62]
  constructor
  · unfold EEb
    rw [s18, s62, hl]
    dsimp only
    rw [hkw, cond_true, hn, cond_true, if_pos hb, cond_true]
  · unfold G_X4_readBoats_2
    rw [s18, s62, s54, hl]
    dsimp only
    rw [hkw, cond_true, hn, cond_true, if_pos hb, cond_true]
theorem bt_end {sn : (Nat → Int32) × Int32 × TC} (hkw : f_X4_isKeyword sn.2.2.2.1 sn.2.2.2.2 sn.2.2.1 tp (nI n) 7 = false) : EEb pk pst pe tp (nI n) dbNames dnB j sn = some (true, sn) := by
  unfold EEb
  simp only [hkw, cond_false]
end GRB
section GRC
variable {T : List Nat} {tp : Nat → Int32} {pk pst pe dnB dnP : Int32} {dbNames dpNames dfBoats : Nat → Int32} {j : Nat}
/-- the text of the boats from k on, R behind them -/
def btL (c : Nat → Nat) (R : List Nat) : Nat → Nat → List Nat
  | 0, _ => R
  | m + 1, k => kwN 7 ++ ([32] ++ ([96 + c k] ++ (59 :: btL c R m (k + 1))))
def lnS (c : Nat → Nat) (bn : Nat → Int32) : Nat → (Nat → Int32)
  | 0 => bn
  | k + 1 => upd (lnS c bn k) k (nI (c k * 2 ^ 25))
theorem lnS_at (c : Nat → Nat) (bn : Nat → Int32) : ∀ k i, i < k → lnS c bn k i = nI (c i * 2 ^ 25)
  | 0, _, h => absurd h (Nat.not_lt_zero _)
  | k + 1, i, h => by
    show upd (lnS c bn k) k _ i = _
    unfold upd
    by_cases q : i = k
    · rw [if_pos q, q]
    · rw [if_neg q]
      exact lnS_at c bn k i (by omega)
theorem nm_inj {a b : Nat} (ha : a ≤ 26) (hb : b ≤ 26) (h : nI (a * 2 ^ 25) = nI (b * 2 ^ 25)) : a = b := by
  have := (nI_eq (a := a * 2 ^ 25) (b := b * 2 ^ 25) (by omega) (by omega)).mp h
  omega
theorem adv_from {t : TC} {X : List Nat} (h : t.1 = nI (ps T X)) : f_X4_advance t.1 tp (nI T.length) = cu T tp X := by
  rw [h]
  rfl
theorem cu_w (hT : TPT T tp) {sp w R : List Nat} (hsp : sp = [] ∨ sp = [32]) (h : SFX T (sp ++ (w ++ R))) (hne : w ≠ []) (hw : ∀ c, c ∈ w → inR 97 122 c = true) (hR : HN (inR 97 122) R) : f_X4_advance (cu T tp (sp ++ (w ++ R))).1 tp (nI T.length) = cu T tp R := adv_from (by rw [adv_w hT hsp h hne hw hR])
theorem kw_true (hT : TPT T tp) {sp R : List Nat} (hsp : sp = [] ∨ sp = [32]) {x : Nat} (hx : x < 10) (h : SFX T (sp ++ (kwN x ++ R))) (hR : HN (inR 97 122) R) : f_X4_isKeyword (cu T tp (sp ++ (kwN x ++ R))).2.1 (cu T tp (sp ++ (kwN x ++ R))).2.2 (cu T tp (sp ++ (kwN x ++ R))).1 tp (nI T.length) x = true :=
  (kw_is hT hsp h (kwN_ok x hx).1 (kwN_ok x hx).2.2.2 hR hx).trans (kwN_key x hx)
theorem kw87 : (decide ((kwN 8).length ≤ 8) && decide (lN (WF (fun k => (kwN 8).getD k 0 - 96) (kwN 8).length) = Kx 7)) = false := by decide +kernel
theorem hn_spl (R : List Nat) : HN (inR 97 122) ([32] ++ R) := hn_sp (by decide) R
theorem hn_sel (R : List Nat) : HN (inR 97 122) (59 :: R) := hn_se (by decide) R
theorem bt_one (hT : TPT T tp) {bn : Nat → Int32} {k c : Nat} {R : List Nat} {t0 t3 : TC} (e0 : t0 = cu T tp (kwN 7 ++ ([32] ++ ([96 + c] ++ (59 :: R))))) (e3 : t3 = cu T tp R) (hk : k < 6) (hc : 1 ≤ c ∧ c ≤ 26) (h : SFX T (kwN 7 ++ ([32] ++ ([96 + c] ++ (59 :: R))))) (hb : f_X7_boatNamed bn (nI k) (nI (c * 2 ^ 25)) = -2) :
    EEb pk pst pe tp (nI T.length) dbNames dnB j (bn, nI k, t0) = none ∧ G_X4_readBoats_2 pk pst pe tp (nI T.length) dbNames dnB j (bn, nI k, t0) = (upd bn k (nI (c * 2 ^ 25)), nI (k + 1), t3) := by
  have h1 : SFX T ([32] ++ ([96 + c] ++ (59 :: R))) := h.of
  have h2 : SFX T (59 :: R) := h1.of.of
  obtain ⟨n1, n2, n3⟩ := name1 hT (sp := [32]) (Or.inr rfl) hc h1 (hn_sel R)
  have q1 := kw_true hT (sp := []) (x := 7) (Or.inl rfl) (by decide) h (hn_spl _)
  have q2 := cu_w hT (sp := []) (Or.inl rfl) h (kwN_ok 7 (by decide)).1 (kwN_ok 7 (by decide)).2.2.2 (hn_spl _)
  have q3 := adv_from (tp := tp) n3
  have q4 := sk_semi hT h2
  rw [List.nil_append, ← e0] at q1 q2
  rw [← e3] at q4
  generalize cu T tp ([32] ++ ([96 + c] ++ (59 :: R))) = t1 at n1 n2 q2 q3
  generalize cu T tp (59 :: R) = t2 at q3 q4
  exact bt_gen hk q1 q2 n1 n2 q3 q4 hb
theorem bts_ok (hT : TPT T tp) {B : Nat} (hB : B < 6) {c : Nat → Nat} (hc : ∀ k, k < B → 1 ≤ c k ∧ c k ≤ 26) (hi : ∀ a b, a < B → b < B → c a = c b → a = b) {R : List Nat} (h : SFX T (btL c (kwN 8 ++ ([32] ++ R)) B 0)) (bn : Nat → Int32) : f_X4_readBoats (cu T tp (btL c (kwN 8 ++ ([32] ++ R)) B 0)).2.1 (cu T tp (btL c (kwN 8 ++ ([32] ++ R)) B 0)).2.2 (cu T tp (btL c (kwN 8 ++ ([32] ++ R)) B 0)).1 tp (nI T.length) bn 0 = (true, lnS c bn B, nI B, cu T tp (kwN 8 ++ ([32] ++ R))) := by
  generalize hpk : (cu T tp (btL c (kwN 8 ++ ([32] ++ R)) B 0)).2.1 = pk
  generalize hpst : (cu T tp (btL c (kwN 8 ++ ([32] ++ R)) B 0)).2.2 = pst
  generalize hpe : (cu T tp (btL c (kwN 8 ++ ([32] ++ R)) B 0)).1 = pe
  have hL : ∀ k, k ≤ B → L_X4_readBoats_2 pk pst pe tp (nI T.length) bn 0 k = (lnS c bn k, nI k, cu T tp (btL c (kwN 8 ++ ([32] ++ R)) (B - k) k)) ∧ SFX T (btL c (kwN 8 ++ ([32] ++ R)) (B - k) k) ∧ fst_ (fun k => E_X4_readBoats_2 pk pst pe tp (nI T.length) bn 0 k) k = none := fun k => by
    induction k with
    | zero =>
      intro _
      refine ⟨?_, h, rfl⟩
      refine (iter_z _ _).trans ?_
      rw [← hpk, ← hpst, ← hpe]
      generalize cu T tp (btL c (kwN 8 ++ ([32] ++ R)) B 0) = t
      rfl
    | succ k ih =>
      intro hk
      obtain ⟨i1, i2, i3⟩ := ih (by omega)
      have em : B - k = (B - (k + 1)) + 1 := by omega
      rw [em] at i1 i2
      generalize hX : btL c (kwN 8 ++ ([32] ++ R)) (B - (k + 1)) (k + 1) = X
      have eT : btL c (kwN 8 ++ ([32] ++ R)) (B - (k + 1) + 1) k = kwN 7 ++ ([32] ++ ([96 + c k] ++ (59 :: X))) := by
        rw [← hX]
        rfl
      rw [eT] at i1 i2
      obtain ⟨t0, e0⟩ : ∃ t, t = cu T tp (kwN 7 ++ ([32] ++ ([96 + c k] ++ (59 :: X)))) := ⟨_, rfl⟩
      obtain ⟨t3, e3⟩ : ∃ t, t = cu T tp X := ⟨_, rfl⟩
      have hf : f_X7_boatNamed (lnS c bn k) (nI k) (nI (c k * 2 ^ 25)) = -2 := find_none (an := 6) (k := k) (by omega) (by decide) (fun i hi2 z => by
        rw [lnS_at c bn k i hi2] at z
        have := hi i k (by omega) (by omega) (nm_inj (hc i (by omega)).2 (hc k (by omega)).2 z)
        omega)
      obtain ⟨o1, o2⟩ := bt_one (k := k) (pk := pk) (pst := pst) (pe := pe) (dbNames := bn) (dnB := 0) (j := k) hT (bn := lnS c bn k) e0 e3 (by omega) (hc k (by omega)) i2 hf
      rw [← e0] at i1
      rw [← e3]
      refine ⟨?_, (((i2.of (A := kwN 7)).of (A := [32])).of (A := [96 + c k])).of (A := [59]), fst_n i3 (by
        show E_X4_readBoats_2 pk pst pe tp (nI T.length) bn 0 k = none
        rw [EEb_eq, i1]
        exact o1)⟩
      exact ((iter_s _ _ _).trans (congrArg (G_X4_readBoats_2 pk pst pe tp (nI T.length) bn 0 k) i1)).trans o2
  obtain ⟨i1, i2, i3⟩ := hL B (Nat.le_refl _)
  rw [Nat.sub_self] at i1 i2
  rw [show btL c (kwN 8 ++ ([32] ++ R)) 0 B = kwN 8 ++ ([32] ++ R) from rfl] at i1 i2
  have hk := (kw_is hT (sp := []) (x := 7) (Or.inl rfl) i2 (kwN_ok 8 (by decide)).1 (kwN_ok 8 (by decide)).2.2.2 (hn_spl _) (by decide)).trans kw87
  rw [List.nil_append] at hk
  generalize cu T tp (kwN 8 ++ ([32] ++ R)) = t at hk i1 ⊢
  have hE : E_X4_readBoats_2 pk pst pe tp (nI T.length) bn 0 B = some (true, lnS c bn B, nI B, t) := by
    rw [EEb_eq, i1]
    exact bt_end hk
  exact F_some (fst_s i3 hE hB)
/-! a person -/
theorem pn_gen {t0 t1 t2 : TC} {pn fb bn : Nat → Int32} {k B : Nat} {nm : Int32} (hk : k < 20) (hn : f_X4_isName t0.2.1 t0.2.2 t0.1 tp (nI T.length) = true) (hl : f_X4_letters t0.2.2 t0.1 tp (nI T.length) = nm) (hp : f_X7_personNamed pn (nI k) nm = -2) (e34 : f_X4_advance t0.1 tp (nI T.length) = t1) (hkw : f_X4_isKeyword t1.2.1 t1.2.2 t1.1 tp (nI T.length) 9 = false) (e91 : f_X4_skipSemicolon t1.2.1 t1.2.2 t1.1 tp (nI T.length) = (true, t2)) : f_X4_readPerson t0.2.1 t0.2.2 t0.1 tp (nI T.length) bn pn fb (nI B) (nI k) = (true, upd fb k (-2), nI (k + 1), upd pn k nm, t2) := by
  have s34 : S_X4_readPerson_34 t0.1 tp (nI T.length) = t1 := e34
  have s87 : S_X4_readPerson_87 t0.2.2 t0.1 tp (nI T.length) pn fb (nI k) = (upd fb k (-2), nI (k + 1), upd pn k nm) := by
    unfold S_X4_readPerson_87
    rw [hl]
    unfold f_X7_addPerson
    rw [if_pos (show nI k < 20 from nI_lt (b := 20) hk (by decide)), setCell_nI (by decide) hk, setCell_nI (by decide) hk, nI_1]
  have s91 : S_X4_readPerson_91 t0.1 tp (nI T.length) = (true, t2) := by
    unfold S_X4_readPerson_91
    rw [s34, e91]
  unfold f_X4_readPerson
  rw [hn, cond_true, hl, if_pos hp, s34, hkw, cond_false, s91, s87]
theorem pb_gen {t0 t1 t2 t3 t4 : TC} {pn fb bn : Nat → Int32} {k B b : Nat} {nm nb : Int32} (hk : k < 20) (hb : b < 20) (hn : f_X4_isName t0.2.1 t0.2.2 t0.1 tp (nI T.length) = true) (hl : f_X4_letters t0.2.2 t0.1 tp (nI T.length) = nm) (hp : f_X7_personNamed pn (nI k) nm = -2) (e34 : f_X4_advance t0.1 tp (nI T.length) = t1) (hkw : f_X4_isKeyword t1.2.1 t1.2.2 t1.1 tp (nI T.length) 9 = true) (e47 : f_X4_advance t1.1 tp (nI T.length) = t2) (hn2 : f_X4_isName t2.2.1 t2.2.2 t2.1 tp (nI T.length) = true) (hl2 : f_X4_letters t2.2.2 t2.1 tp (nI T.length) = nb) (hbn : f_X7_boatNamed bn (nI B) nb = nI b) (e78 : f_X4_advance t2.1 tp (nI T.length) = t3) (e91 : f_X4_skipSemicolon t3.2.1 t3.2.2 t3.1 tp (nI T.length) = (true, t4)) : f_X4_readPerson t0.2.1 t0.2.2 t0.1 tp (nI T.length) bn pn fb (nI B) (nI k) = (true, upd fb k (nI b), nI (k + 1), upd pn k nm, t4) := by
  have s34 : S_X4_readPerson_34 t0.1 tp (nI T.length) = t1 := e34
  have s47 : S_X4_readPerson_47 t0.1 tp (nI T.length) = t2 := by
    unfold S_X4_readPerson_47
    rw [s34, e47]
  have j54 : J_X4_readPerson_54 t0.1 tp (nI T.length) bn (nI B) = nI b := by
    unfold J_X4_readPerson_54
    rw [s47, hn2, cond_true, hl2, hbn]
  have s87 : S_X4_readPerson_87a t0.2.2 t0.1 tp (nI T.length) bn pn fb (nI B) (nI k) = (upd fb k (nI b), nI (k + 1), upd pn k nm) := by
    unfold S_X4_readPerson_87a
    rw [hl, j54]
    unfold f_X7_addPerson
    rw [if_pos (show nI k < 20 from nI_lt (b := 20) hk (by decide)), setCell_nI (by decide) hk, setCell_nI (by decide) hk, nI_1]
  have s78 : S_X4_readPerson_78 t0.1 tp (nI T.length) = t3 := by
    unfold S_X4_readPerson_78
    rw [s47, e78]
  have s91 : S_X4_readPerson_91a t0.1 tp (nI T.length) = (true, t4) := by
    unfold S_X4_readPerson_91a
    rw [s78, e91]
  have hm : ¬ nI b = -2 := fun z => by
    have h2 : ∀ b, b < 20 → ¬ nI b = -2 := by decide
    exact h2 b hb z
  unfold f_X4_readPerson
  rw [hn, cond_true, hl, if_pos hp, s34, hkw, cond_true, j54, if_neg hm, s91, s87]
/-- the text of the people from k on: o k = 0 has no boat, o k = b + 1 is of boat b -/
def peT (c cb o : Nat → Nat) : Nat → Nat → List Nat
  | 0, _ => []
  | m + 1, k => kwN 8 ++ ([32] ++ ([96 + c k] ++ (if o k = 0 then 59 :: peT c cb o m (k + 1) else [32] ++ (kwN 9 ++ ([32] ++ ([96 + cb (o k - 1)] ++ (59 :: peT c cb o m (k + 1))))))))
def obS (o : Nat → Nat) (k : Nat) : Int32 := if o k = 0 then -2 else nI (o k - 1)
def fbS (o : Nat → Nat) (fb : Nat → Int32) : Nat → (Nat → Int32)
  | 0 => fb
  | k + 1 => upd (fbS o fb k) k (obS o k)
theorem fbS_at (o : Nat → Nat) (fb : Nat → Int32) : ∀ k i, i < k → fbS o fb k i = obS o i
  | 0, _, h => absurd h (Nat.not_lt_zero _)
  | k + 1, i, h => by
    show upd (fbS o fb k) k _ i = _
    unfold upd
    by_cases q : i = k
    · rw [if_pos q, q]
    · rw [if_neg q]
      exact fbS_at o fb k i (by omega)
theorem kw9_semi (hT : TPT T tp) {R : List Nat} (h : SFX T (59 :: R)) : f_X4_isKeyword (cu T tp (59 :: R)).2.1 (cu T tp (59 :: R)).2.2 (cu T tp (59 :: R)).1 tp (nI T.length) 9 = false := by
  rw [adv_s hT h]
  unfold f_X4_isKeyword
  rw [if_neg (show ¬ (3 : Int32) = 1 by decide)]
theorem pe_one (hT : TPT T tp) {pn fb bn : Nat → Int32} {B k c : Nat} {cb o : Nat → Nat} {R : List Nat} (hB : B < 6) (hk : k < 20) (hc : 1 ≤ c ∧ c ≤ 26) (hcb : ∀ b, b < B → 1 ≤ cb b ∧ cb b ≤ 26) (hi : ∀ a b, a < B → b < B → cb a = cb b → a = b) (ho : o k ≤ B) (hbn : ∀ b, b < B → bn b = nI (cb b * 2 ^ 25)) (h : SFX T ([32] ++ ([96 + c] ++ (if o k = 0 then 59 :: R else [32] ++ (kwN 9 ++ ([32] ++ ([96 + cb (o k - 1)] ++ (59 :: R)))))))) (hp : f_X7_personNamed pn (nI k) (nI (c * 2 ^ 25)) = -2) :
    f_X4_readPerson (cu T tp ([32] ++ ([96 + c] ++ (if o k = 0 then 59 :: R else [32] ++ (kwN 9 ++ ([32] ++ ([96 + cb (o k - 1)] ++ (59 :: R)))))))).2.1 (cu T tp ([32] ++ ([96 + c] ++ (if o k = 0 then 59 :: R else [32] ++ (kwN 9 ++ ([32] ++ ([96 + cb (o k - 1)] ++ (59 :: R)))))))).2.2 (cu T tp ([32] ++ ([96 + c] ++ (if o k = 0 then 59 :: R else [32] ++ (kwN 9 ++ ([32] ++ ([96 + cb (o k - 1)] ++ (59 :: R)))))))).1 tp (nI T.length) bn pn fb (nI B) (nI k) = (true, upd fb k (obS o k), nI (k + 1), upd pn k (nI (c * 2 ^ 25)), cu T tp R) := by
  unfold obS
  by_cases q : o k = 0
  · rw [if_pos q] at h
    rw [if_pos q, if_pos q]
    obtain ⟨n1, n2, n3⟩ := name1 hT (sp := [32]) (Or.inr rfl) hc h (hn_sel R)
    exact pn_gen (t0 := cu T tp ([32] ++ ([96 + c] ++ (59 :: R)))) (t1 := cu T tp (59 :: R)) (t2 := cu T tp R) hk n1 n2 hp (adv_from n3) (kw9_semi hT h.of.of) (sk_semi hT h.of.of)
  · rw [if_neg q] at h
    rw [if_neg q, if_neg q]
    have hb : o k - 1 < B := by omega
    obtain ⟨n1, n2, n3⟩ := name1 hT (sp := [32]) (Or.inr rfl) hc h (hn_spl _)
    have h2 : SFX T ([32] ++ (kwN 9 ++ ([32] ++ ([96 + cb (o k - 1)] ++ (59 :: R))))) := h.of.of
    have h3 : SFX T ([32] ++ ([96 + cb (o k - 1)] ++ (59 :: R))) := h2.of.of
    obtain ⟨m1, m2, m3⟩ := name1 hT (sp := [32]) (Or.inr rfl) (hcb _ hb) h3 (hn_sel R)
    exact pb_gen (t0 := cu T tp ([32] ++ ([96 + c] ++ ([32] ++ (kwN 9 ++ ([32] ++ ([96 + cb (o k - 1)] ++ (59 :: R)))))))) (t1 := cu T tp ([32] ++ (kwN 9 ++ ([32] ++ ([96 + cb (o k - 1)] ++ (59 :: R)))))) (t2 := cu T tp ([32] ++ ([96 + cb (o k - 1)] ++ (59 :: R)))) (t3 := cu T tp (59 :: R)) (t4 := cu T tp R) hk (by omega) n1 n2 hp (adv_from n3) (kw_true hT (sp := [32]) (x := 9) (Or.inr rfl) (by decide) h2 (hn_spl _)) (cu_w hT (sp := [32]) (Or.inr rfl) h2 (kwN_ok 9 (by decide)).1 (kwN_ok 9 (by decide)).2.2.2 (hn_spl _)) m1 m2 (find_at (by omega) (by decide) hb (hbn _ hb) (fun i hi2 z => by
      rw [hbn i (by omega)] at z
      have := hi i _ (by omega) hb (nm_inj (hcb i (by omega)).2 (hcb _ hb).2 z)
      omega)) (adv_from m3) (sk_semi hT h3.of.of)
theorem pes_ok (hT : TPT T tp) {P B : Nat} (hP : 2 ≤ P ∧ P < 20) (hB : B < 6) {c cb o : Nat → Nat} (hc : ∀ k, k < P → 1 ≤ c k ∧ c k ≤ 26) (hci : ∀ a b, a < P → b < P → c a = c b → a = b) (hcb : ∀ b, b < B → 1 ≤ cb b ∧ cb b ≤ 26) (hi : ∀ a b, a < B → b < B → cb a = cb b → a = b) (ho : ∀ k, k < P → o k ≤ B) {bn : Nat → Int32} (hbn : ∀ b, b < B → bn b = nI (cb b * 2 ^ 25)) (h : SFX T (peT c cb o P 0)) (pn fb : Nat → Int32) :
    f_X4_readPeople (cu T tp (peT c cb o P 0)).2.1 (cu T tp (peT c cb o P 0)).2.2 (cu T tp (peT c cb o P 0)).1 tp (nI T.length) bn pn fb (nI B) 0 = (true, fbS o fb P, nI P, lnS c pn P, cu T tp []) := by
  generalize hpk : (cu T tp (peT c cb o P 0)).2.1 = pk
  generalize hpst : (cu T tp (peT c cb o P 0)).2.2 = pst
  generalize hpe : (cu T tp (peT c cb o P 0)).1 = pe
  have hL : ∀ k, k ≤ P → L_X4_readPeople_2 pk pst pe tp (nI T.length) bn pn fb (nI B) 0 k = (fbS o fb k, nI k, lnS c pn k, cu T tp (peT c cb o (P - k) k)) ∧ SFX T (peT c cb o (P - k) k) ∧ fst_ (fun k => E_X4_readPeople_2 pk pst pe tp (nI T.length) bn pn fb (nI B) 0 k) k = none := fun k => by
    induction k with
    | zero =>
      intro _
      refine ⟨?_, h, rfl⟩
      refine (iter_z _ _).trans ?_
      rw [← hpk, ← hpst, ← hpe]
      show (fb, (0 : Int32), pn, _, _, _) = (fb, nI 0, pn, cu T tp (peT c cb o P 0))
      generalize cu T tp (peT c cb o P 0) = t
      rfl
    | succ k ih =>
      intro hk
      obtain ⟨i1, i2, i3⟩ := ih (by omega)
      have em : P - k = (P - (k + 1)) + 1 := by omega
      rw [em] at i1 i2
      generalize hR : peT c cb o (P - (k + 1)) (k + 1) = R
      have eT : peT c cb o (P - (k + 1) + 1) k = kwN 8 ++ ([32] ++ ([96 + c k] ++ (if o k = 0 then 59 :: R else [32] ++ (kwN 9 ++ ([32] ++ ([96 + cb (o k - 1)] ++ (59 :: R))))))) := by
        rw [← hR]
        rfl
      rw [eT] at i1 i2
      have hne : ¬ (cu T tp (kwN 8 ++ ([32] ++ ([96 + c k] ++ (if o k = 0 then 59 :: R else [32] ++ (kwN 9 ++ ([32] ++ ([96 + cb (o k - 1)] ++ (59 :: R))))))))).2.1 = 0 := by
        have e := adv_w hT (sp := []) (w := kwN 8) (Or.inl rfl) i2 (kwN_ok 8 (by decide)).1 (kwN_ok 8 (by decide)).2.2.2 (hn_spl _)
        have e2 : (cu T tp (kwN 8 ++ ([32] ++ ([96 + c k] ++ (if o k = 0 then 59 :: R else [32] ++ (kwN 9 ++ ([32] ++ ([96 + cb (o k - 1)] ++ (59 :: R))))))))).2.1 = 1 := congrArg (fun t : TC => t.2.1) e
        rw [e2]
        decide
      have hkw := sk_kw hT (sp := []) (x := 8) (by decide) (Or.inl rfl) i2 (hn_spl _)
      have i2b := i2.of
      have hpr := pe_one hT (fb := fbS o fb k) (bn := bn) hB (by omega) (hc k (by omega)) hcb hi (ho k (by omega)) hbn i2b (pn := lnS c pn k) (find_none (an := 20) (k := k) (by omega) (by decide) (fun i hi2 z => by
        rw [lnS_at c pn k i hi2] at z
        have := hci i k (by omega) (by omega) (nm_inj (hc i (by omega)).2 (hc k (by omega)).2 z)
        omega))
      generalize cu T tp ([32] ++ ([96 + c k] ++ (if o k = 0 then 59 :: R else [32] ++ (kwN 9 ++ ([32] ++ ([96 + cb (o k - 1)] ++ (59 :: R))))))) = t1 at hkw hpr
      have hkw' : f_X4_skipKeyword (cu T tp (kwN 8 ++ ([32] ++ ([96 + c k] ++ (if o k = 0 then 59 :: R else [32] ++ (kwN 9 ++ ([32] ++ ([96 + cb (o k - 1)] ++ (59 :: R))))))))).2.1 (cu T tp (kwN 8 ++ ([32] ++ ([96 + c k] ++ (if o k = 0 then 59 :: R else [32] ++ (kwN 9 ++ ([32] ++ ([96 + cb (o k - 1)] ++ (59 :: R))))))))).2.2 (cu T tp (kwN 8 ++ ([32] ++ ([96 + c k] ++ (if o k = 0 then 59 :: R else [32] ++ (kwN 9 ++ ([32] ++ ([96 + cb (o k - 1)] ++ (59 :: R))))))))).1 tp (nI T.length) 8 = (true, t1) := hkw
      generalize cu T tp (kwN 8 ++ ([32] ++ ([96 + c k] ++ (if o k = 0 then 59 :: R else [32] ++ (kwN 9 ++ ([32] ++ ([96 + cb (o k - 1)] ++ (59 :: R)))))))) = t0 at i1 hne hkw'
      have k1 : kwP T.length tp (fbS o fb k, nI k, lnS c pn k, t0) = (true, t1) := hkw'
      have r1 : rpP T.length tp bn (nI B) (fbS o fb k, nI k, lnS c pn k, t0) = (true, upd (fbS o fb k) k (obS o k), nI (k + 1), upd (lnS c pn k) k (nI (c k * 2 ^ 25)), cu T tp R) := by
        unfold rpP
        rw [k1]
        exact hpr
      refine ⟨?_, ?_, fst_n i3 ?_⟩
      · refine ((iter_s _ _ _).trans (congrArg (G_X4_readPeople_2 pk pst pe tp (nI T.length) bn pn fb (nI B) 0 k) i1)).trans ?_
        rw [Gp_rw (Or.inr hne) (congrArg (fun t : Bool × TC => t.1) k1) (congrArg (fun t : Bool × (Nat → Int32) × Int32 × (Nat → Int32) × TC => t.1) r1), r1]
        rfl
      · by_cases q : o k = 0
        · rw [if_pos q] at i2b
          exact ((i2b.of (A := [32])).of (A := [96 + c k])).of (A := [59])
        · rw [if_neg q] at i2b
          exact (((((i2b.of (A := [32])).of (A := [96 + c k])).of (A := [32])).of (A := kwN 9)).of (A := [32])).of (A := [96 + cb (o k - 1)]) |>.of (A := [59])
      · show E_X4_readPeople_2 pk pst pe tp (nI T.length) bn pn fb (nI B) 0 k = none
        rw [EEp_eq, i1, EEp_rw, k1, r1, if_neg hne]
        show (if nI k < 2 then none else none) = none
        by_cases q : nI k < 2
        · rw [if_pos q]
        · rw [if_neg q]
  obtain ⟨i1, i2, i3⟩ := hL P (Nat.le_refl _)
  rw [Nat.sub_self] at i1 i2
  have i1' : L_X4_readPeople_2 pk pst pe tp (nI T.length) bn pn fb (nI B) 0 P = (fbS o fb P, nI P, lnS c pn P, cu T tp []) := i1
  refine Q_some (fst_s i3 ?_ hP.2)
  show E_X4_readPeople_2 pk pst pe tp (nI T.length) bn pn fb (nI B) 0 P = _
  have hz : (cu T tp []).2.1 = 0 := by rw [adv_e hT]
  rw [EEp_eq, i1', EEp_rw]
  generalize cu T tp [] = t at hz ⊢
  rw [if_neg (show ¬ nI P < 2 from fun z => absurd ((nI_ltI (a := P) (b := 2) (by omega) (by decide)).mp z) (by omega)), if_pos hz]
end GRC
