/-! THE SETUP TEXT READ: tokens at the head of what is left -/
def TPT (T : List Nat) (tp : Nat → Int32) : Prop := T.length ≤ 800 ∧ (∀ j, j < T.length → tp j = nI (T.getD j 0)) ∧ ∀ c, c ∈ T → c < 128
def uT (T : List Nat) : Nat → Nat := fun j => T.getD j 0
def SFX (T R : List Nat) : Prop := ∃ pre, T = pre ++ R
def ps (T R : List Nat) : Nat := T.length - R.length
noncomputable def cu (T : List Nat) (tp : Nat → Int32) (R : List Nat) : TC := f_X4_advance (nI (ps T R)) tp (nI T.length)
/-- what is left doesn't begin so -/
def HN (p : Nat → Bool) (R : List Nat) : Prop := ∀ c R', R = c :: R' → p c = false
def spc (c : Nat) : Bool := c == 32 || c == 10
theorem HN.nil (p : Nat → Bool) : HN p [] := fun c R' h => by cases h
theorem HN.cons {p : Nat → Bool} {c : Nat} {R : List Nat} (h : p c = false) : HN p (c :: R) := fun d R' e => by
  cases e
  exact h
theorem HN.app {p : Nat → Bool} {c : Nat} {w R : List Nat} (h : p c = false) : HN p ((c :: w) ++ R) := HN.cons h
theorem TPT.ch {T : List Nat} {tp : Nat → Int32} (h : TPT T tp) : CH T.length tp tp (uT T) := fun j hj => by
  have hc : uT T j < 128 := by
    show T.getD j 0 < 128
    rw [List.getD_eq_getElem?_getD, List.getElem?_eq_getElem hj]
    exact h.2.2 _ (List.getElem_mem hj)
  have e : tp j = byt (uT T j) := by
    rw [byt_low hc]
    exact h.2.1 j hj
  exact ⟨e, e, by omega⟩
theorem SFX.of {T A R : List Nat} (h : SFX T (A ++ R)) : SFX T R := by
  obtain ⟨pre, e⟩ := h
  exact ⟨pre ++ A, by rw [e, List.append_assoc]⟩
theorem SFX.rf (T : List Nat) : SFX T T := ⟨[], rfl⟩
theorem SFX.le {T R : List Nat} (h : SFX T R) : R.length ≤ T.length ∧ ps T R + R.length = T.length := by
  obtain ⟨pre, e⟩ := h
  unfold ps
  rw [e, List.length_append]
  omega
theorem SFX.at {T R : List Nat} (h : SFX T R) (k : Nat) : uT T (ps T R + k) = R.getD k 0 := by
  obtain ⟨pre, e⟩ := h
  unfold uT ps
  rw [e, List.length_append, Nat.add_sub_cancel, List.getD_eq_getElem?_getD, List.getD_eq_getElem?_getD, List.getElem?_append_right (Nat.le_add_right _ _), Nat.add_sub_cancel_left]
theorem ps_app {T A R : List Nat} (h : SFX T (A ++ R)) : ps T R = ps T (A ++ R) + A.length := by
  have h1 := h.le
  rw [List.length_append] at h1
  have h2 := h.of.le
  omega
theorem eo_is {P : Nat → Bool} {n i m : Nat} (h1 : ∀ k, k < m → P (i + k) = true) (h2 : P (i + m) = false) (h3 : i + m ≤ n) : eo P n i = i + m := by
  unfold eo
  refine congrArg (HAdd.hAdd i) ?_
  rcases Nat.lt_trichotomy (wh_ (fun k => !P (i + k)) (n - i)) m with q | q | q
  · have h4 := wh_yes (n - i) (fun k => !P (i + k)) ⟨m, by omega, by rw [h2]; rfl⟩
    rw [h1 _ q] at h4
    exact absurd h4 (by decide)
  · exact q
  · have h4 : (!P (i + m)) = false := wh_no (n - i) (fun k => !P (i + k)) m q
    rw [h2] at h4
    exact absurd h4 (by decide)
/-- a run at the head of what is left -/
theorem eo_run {T : List Nat} {p : Nat → Bool} {w R : List Nat} (h : SFX T (w ++ R)) (hw : ∀ c, c ∈ w → p c = true) (hR : HN p R) : eo (fun j => decide (j < T.length) && p (uT T j)) T.length (ps T (w ++ R)) = ps T R := by
  have hl := h.le
  rw [List.length_append] at hl
  rw [ps_app h]
  refine eo_is (fun k hk => ?_) ?_ (by omega)
  · rw [decide_eq_true (by omega), Bool.true_and, h.at, List.getD_eq_getElem?_getD, List.getElem?_append_left hk, List.getElem?_eq_getElem hk]
    exact hw _ (List.getElem_mem hk)
  · cases hR2 : R with
    | nil =>
      subst hR2
      rw [List.length_nil, Nat.add_zero] at hl
      rw [decide_eq_false (by omega)]
      rfl
    | cons c R' =>
      have e : uT T (ps T (w ++ (c :: R')) + w.length) = c := by
        rw [← hR2, h.at, List.getD_eq_getElem?_getD, List.getElem?_append_right (Nat.le_refl _), Nat.sub_self, hR2]
        rfl
      rw [e, hR c R' hR2, Bool.and_false]
section TOK
variable {T : List Nat} {tp : Nat → Int32}
theorem tk_skip (hT : TPT T tp) {sp K : List Nat} (hsp : sp = [] ∨ sp = [32]) (h : SFX T (sp ++ K)) (hK : HN spc K) : X_X4_advance_8 (nI (ps T (sp ++ K))) tp (nI T.length) = nI (ps T K) := by
  have hl := h.le
  rw [x_skip hT.ch hT.1 (i := ps T (sp ++ K)) (by omega)]
  exact congrArg nI (eo_run (p := spc) h (fun c hc => by rcases hsp with e | e <;> subst e <;> simp at hc <;> subst hc <;> decide) hK)
theorem at_head {c : Nat} {R : List Nat} (h : SFX T (c :: R)) : uT T (ps T (c :: R)) = c ∧ ps T (c :: R) < T.length ∧ ps T (c :: R) + 1 = ps T R := by
  have e := h.at 0
  have hl := h.le
  have h2 : SFX T ([c] ++ R) := h
  have hp := ps_app h2
  rw [List.length_cons] at hl
  exact ⟨e, by omega, hp.symm⟩
theorem adv_w (hT : TPT T tp) {sp w R : List Nat} (hsp : sp = [] ∨ sp = [32]) (h : SFX T (sp ++ (w ++ R))) (hne : w ≠ []) (hw : ∀ c, c ∈ w → inR 97 122 c = true) (hR : HN (inR 97 122) R) : cu T tp (sp ++ (w ++ R)) = (nI (ps T R), 1, nI (ps T (w ++ R))) := by
  obtain ⟨c, w', rfl⟩ : ∃ c w', w = c :: w' := by
    cases w with
    | nil => exact absurd rfl hne
    | cons c w' => exact ⟨c, w', rfl⟩
  have hc := hw c (List.mem_cons_self ..)
  have hcs : spc c = false := by
    unfold inR at hc
    rw [Bool.and_eq_true, decide_eq_true_eq, decide_eq_true_eq] at hc
    unfold spc
    rw [beq_false_of_ne (show c ≠ 32 by omega), beq_false_of_ne (show c ≠ 10 by omega)]
    rfl
  have hs := h.of
  have h8 := tk_skip hT hsp h (HN.cons (R := w' ++ R) hcs)
  obtain ⟨e1, e2, e3⟩ := at_head (c := c) (R := w' ++ R) hs
  have hn := hT.1
  have hl : f_X4_isLetter (f_X1_at 800 tp (nI T.length) (nI (ps T (c :: w' ++ R)))) = true := by
    rw [x_isL hT.ch hn (by have := hs.le; omega)]
    show (decide (ps T (c :: (w' ++ R)) < T.length) && inR 97 122 (uT T (ps T (c :: (w' ++ R))))) = true
    rw [e1, hc, decide_eq_true e2]
    rfl
  unfold cu f_X4_advance X_X4_advance_77
  rw [h8, hl, cond_true, x_word hT.ch hn (by have := hs.le; omega)]
  rw [show eo (isL T.length (uT T)) T.length (ps T (c :: w' ++ R)) = ps T R from eo_run (p := inR 97 122) hs hw hR]
theorem adv_d (hT : TPT T tp) {sp w R : List Nat} (hsp : sp = [] ∨ sp = [32]) (h : SFX T (sp ++ (w ++ R))) (hne : w ≠ []) (hw : ∀ c, c ∈ w → inR 48 57 c = true) (h3 : w.length ≤ 3) (hR : HN (inR 48 57) R) : cu T tp (sp ++ (w ++ R)) = (nI (ps T R), 2, nI (ps T (w ++ R))) := by
  obtain ⟨c, w', rfl⟩ : ∃ c w', w = c :: w' := by
    cases w with
    | nil => exact absurd rfl hne
    | cons c w' => exact ⟨c, w', rfl⟩
  have hc := hw c (List.mem_cons_self ..)
  have hcb : 48 ≤ c ∧ c ≤ 57 := by
    unfold inR at hc
    rw [Bool.and_eq_true, decide_eq_true_eq, decide_eq_true_eq] at hc
    exact hc
  have hcs : spc c = false := by
    unfold spc
    rw [beq_false_of_ne (show c ≠ 32 by omega), beq_false_of_ne (show c ≠ 10 by omega)]
    rfl
  have hs := h.of
  have h8 := tk_skip hT hsp h (HN.cons (R := w' ++ R) hcs)
  obtain ⟨e1, e2, e3⟩ := at_head (c := c) (R := w' ++ R) hs
  have hn := hT.1
  have hps : ps T R = ps T (c :: w' ++ R) + (c :: w').length := ps_app hs
  have hl : f_X4_isLetter (f_X1_at 800 tp (nI T.length) (nI (ps T (c :: w' ++ R)))) = false := by
    rw [x_isL hT.ch hn (by have := hs.le; omega)]
    show (decide (ps T (c :: (w' ++ R)) < T.length) && inR 97 122 (uT T (ps T (c :: (w' ++ R))))) = false
    rw [e1, show inR 97 122 c = false from ?_, Bool.and_false]
    unfold inR
    rw [decide_eq_false (by omega)]
    rfl
  have hd : f_X4_isDigit (f_X1_at 800 tp (nI T.length) (nI (ps T (c :: w' ++ R)))) = true := by
    rw [x_isD hT.ch hn (by have := hs.le; omega)]
    show (decide (ps T (c :: (w' ++ R)) < T.length) && inR 48 57 (uT T (ps T (c :: (w' ++ R))))) = true
    rw [e1, hc, decide_eq_true e2]
    rfl
  have he : eo (isD T.length (uT T)) T.length (ps T (c :: w' ++ R)) = ps T R := eo_run (p := inR 48 57) hs hw hR
  unfold cu f_X4_advance J_X4_advance_201 X_X4_advance_146
  rw [h8, hl, cond_false, hd, cond_true, x_int hT.ch hn (by have := hs.le; omega), he]
  have hj : nI (ps T R) - nI (ps T (c :: w' ++ R)) = nI (c :: w').length := by
    rw [nI_sub (by omega)]
    exact congrArg nI (by omega)
  rw [hj, if_neg (show ¬ (3 : Int32) < nI (c :: w').length from fun z => absurd ((nI_ltI (a := 3) (by decide) (by omega)).mp z) (by omega))]
theorem adv_s (hT : TPT T tp) {R : List Nat} (h : SFX T (59 :: R)) : cu T tp (59 :: R) = (nI (ps T R), 3, nI (ps T (59 :: R))) := by
  have h8 := tk_skip hT (sp := []) (Or.inl rfl) h (HN.cons (by decide))
  obtain ⟨e1, e2, e3⟩ := at_head (c := 59) (R := R) h
  have hn := hT.1
  have hl : f_X4_isLetter (f_X1_at 800 tp (nI T.length) (nI (ps T (59 :: R)))) = false := by
    rw [x_isL hT.ch hn (by omega)]
    show (decide (ps T (59 :: R) < T.length) && inR 97 122 (uT T (ps T (59 :: R)))) = false
    rw [e1]
    exact Bool.and_false _
  have hd : f_X4_isDigit (f_X1_at 800 tp (nI T.length) (nI (ps T (59 :: R)))) = false := by
    rw [x_isD hT.ch hn (by omega)]
    show (decide (ps T (59 :: R) < T.length) && inR 48 57 (uT T (ps T (59 :: R)))) = false
    rw [e1]
    exact Bool.and_false _
  have ha : f_X1_at 800 tp (nI T.length) (nI (ps T (59 :: R))) = 59 := by
    rw [hT.ch.at' hn e2, e1]
    rfl
  have h9 : X_X4_advance_8 (nI (ps T (59 :: R))) tp (nI T.length) = nI (ps T (59 :: R)) := h8
  unfold cu f_X4_advance J_X4_advance_251
  rw [h9, hl, cond_false, hd, cond_false, if_pos (nI_lt e2 (by omega)), ha, if_pos rfl, show nI (ps T (59 :: R)) + 1 = nI (ps T (59 :: R) + 1) from nI_add _ 1, e3]
theorem adv_e (hT : TPT T tp) : cu T tp [] = (nI T.length, 0, nI T.length) := by
  have hp : ps T [] = T.length := Nat.sub_zero _
  have h8 := tk_skip hT (sp := []) (K := []) (Or.inl rfl) ⟨T, (List.append_nil T).symm⟩ (HN.nil _)
  have hn := hT.1
  rw [List.nil_append, hp] at h8
  have hl : f_X4_isLetter (f_X1_at 800 tp (nI T.length) (nI T.length)) = false := by
    rw [x_isL hT.ch hn (by omega)]
    exact isL_n _ _
  have hd : f_X4_isDigit (f_X1_at 800 tp (nI T.length) (nI T.length)) = false := by
    rw [x_isD hT.ch hn (by omega)]
    exact isD_n _ _
  unfold cu f_X4_advance
  rw [hp, h8, hl, cond_false, hd, cond_false, if_neg (fun z => absurd ((nI_ltI (by omega) (by omega)).mp z) (Nat.lt_irrefl _))]
/-! keywords, numbers, names, semicolons -/
def kwN (x : Nat) : List Nat := (List.range (strLen.getD x 0)).map (fun k => 96 + kv x k)
theorem kwN_ok : ∀ x, x < 10 → kwN x ≠ [] ∧ (kwN x).length = strLen.getD x 0 ∧ (kwN x).length ≤ 8 ∧ (∀ c, c ∈ kwN x → inR 97 122 c = true) := by decide +kernel
theorem isL_run (hT : TPT T tp) {w R : List Nat} (hs : SFX T (w ++ R)) (hw : ∀ c, c ∈ w → inR 97 122 c = true) : ∀ j, ps T (w ++ R) ≤ j → j < ps T R → isL T.length (uT T) j = true := fun j h1 h2 => by
  have hp := ps_app hs
  have hl := hs.of.le
  obtain ⟨k, rfl⟩ : ∃ k, j = ps T (w ++ R) + k := ⟨j - ps T (w ++ R), by omega⟩
  have hk : k < w.length := by omega
  show (decide (_ < T.length) && inR 97 122 (uT T _)) = true
  rw [decide_eq_true (by omega), Bool.true_and, hs.at, List.getD_eq_getElem?_getD, List.getElem?_append_left hk, List.getElem?_eq_getElem hk]
  exact hw _ (List.getElem_mem hk)
theorem isD_run (hT : TPT T tp) {w R : List Nat} (hs : SFX T (w ++ R)) (hw : ∀ c, c ∈ w → inR 48 57 c = true) : ∀ j, ps T (w ++ R) ≤ j → j < ps T R → isD T.length (uT T) j = true := fun j h1 h2 => by
  have hp := ps_app hs
  have hl := hs.of.le
  obtain ⟨k, rfl⟩ : ∃ k, j = ps T (w ++ R) + k := ⟨j - ps T (w ++ R), by omega⟩
  have hk : k < w.length := by omega
  show (decide (_ < T.length) && inR 48 57 (uT T _)) = true
  rw [decide_eq_true (by omega), Bool.true_and, hs.at, List.getD_eq_getElem?_getD, List.getElem?_append_left hk, List.getElem?_eq_getElem hk]
  exact hw _ (List.getElem_mem hk)
theorem lv_run {w R : List Nat} (hs : SFX T (w ++ R)) {k : Nat} (hk : k < w.length) : lv (uT T) (ps T (w ++ R)) k = w.getD k 0 - 96 := by
  unfold lv
  rw [hs.at, List.getD_eq_getElem?_getD, List.getElem?_append_left hk, List.getD_eq_getElem?_getD]
theorem dv_run {w R : List Nat} (hs : SFX T (w ++ R)) {k : Nat} (hk : k < w.length) : dv (uT T) (ps T (w ++ R)) k = w.getD k 0 - 48 := by
  unfold dv
  rw [hs.at, List.getD_eq_getElem?_getD, List.getElem?_append_left hk, List.getD_eq_getElem?_getD]
/-- the word w at the head: is it the keyword x? -/
theorem kw_is (hT : TPT T tp) {sp w R : List Nat} (hsp : sp = [] ∨ sp = [32]) (h : SFX T (sp ++ (w ++ R))) (hne : w ≠ []) (hw : ∀ c, c ∈ w → inR 97 122 c = true) (hR : HN (inR 97 122) R) {x : Nat} (hx : x < 10) : f_X4_isKeyword (cu T tp (sp ++ (w ++ R))).2.1 (cu T tp (sp ++ (w ++ R))).2.2 (cu T tp (sp ++ (w ++ R))).1 tp (nI T.length) x = (decide (w.length ≤ 8) && decide (lN (WF (fun k => w.getD k 0 - 96) w.length) = Kx x)) := by
  have hs := h.of
  have hp := ps_app hs
  have hl := hs.of.le
  rw [adv_w hT hsp h hne hw hR]
  show f_X4_isKeyword 1 (nI (ps T (w ++ R))) (nI (ps T R)) tp (nI T.length) x = _
  unfold f_X4_isKeyword
  rw [if_pos rfl, x_reads hT.ch hT.1 (i := ps T (w ++ R)) (e := ps T R) (by omega) (by omega) (isL_run hT hs hw) hx, show ps T R - ps T (w ++ R) = w.length by omega, WF_cong (f := lv (uT T) (ps T (w ++ R))) (g := fun k => w.getD k 0 - 96) (fun i hi => lv_run hs hi)]
  cases (decide (w.length ≤ 8) && decide (lN (WF (fun k => w.getD k 0 - 96) w.length) = Kx x)) <;> rfl
theorem kwN_key : ∀ x, x < 10 → (decide ((kwN x).length ≤ 8) && decide (lN (WF (fun k => (kwN x).getD k 0 - 96) (kwN x).length) = Kx x)) = true := by decide +kernel
theorem sk_kw (hT : TPT T tp) {sp R : List Nat} {x : Nat} (hx : x < 10) (hsp : sp = [] ∨ sp = [32]) (h : SFX T (sp ++ (kwN x ++ R))) (hR : HN (inR 97 122) R) : f_X4_skipKeyword (cu T tp (sp ++ (kwN x ++ R))).2.1 (cu T tp (sp ++ (kwN x ++ R))).2.2 (cu T tp (sp ++ (kwN x ++ R))).1 tp (nI T.length) x = (true, cu T tp R) := by
  obtain ⟨k1, -, -, k4⟩ := kwN_ok x hx
  have hk := (kw_is hT hsp h k1 k4 hR hx).trans (kwN_key x hx)
  unfold f_X4_skipKeyword S_X4_skipKeyword_11
  rw [hk, cond_true, adv_w hT hsp h k1 k4 hR]
  unfold cu
  show (true, (f_X4_advance (nI (ps T R)) tp (nI T.length)).1, (f_X4_advance (nI (ps T R)) tp (nI T.length)).2.1, (f_X4_advance (nI (ps T R)) tp (nI T.length)).2.2) = _
  generalize f_X4_advance (nI (ps T R)) tp (nI T.length) = c
  rfl
/-- numbers up to 100 in decimal -/
theorem DV_cong {f g : Nat → Nat} : ∀ {m : Nat}, (∀ i, i < m → f i = g i) → DV f m = DV g m
  | 0, _ => rfl
  | m + 1, h => by
    rw [DV, DV, DV_cong (fun i hi => h i (by omega)), h m (by omega)]
/-- w is the number m in decimal -/
def NUM (w : List Nat) (m : Nat) : Prop := w ≠ [] ∧ w.length ≤ 3 ∧ (∀ c, c ∈ w → inR 48 57 c = true) ∧ DV (fun k => w.getD k 0 - 48) w.length = m
theorem rd_num (hT : TPT T tp) {w R : List Nat} {m x lo hi : Nat} (hw : NUM w m) (hm : m ≤ 100) (hx : x < 10) (hlo : lo ≤ m) (hhi : m ≤ hi) (hh : hi ≤ 100) (h : SFX T ([32] ++ (w ++ R))) (hR : HN (inR 48 57) R) (dn : Nat → Int32) : f_X4_readNumber (cu T tp ([32] ++ (w ++ R))).2.1 (cu T tp ([32] ++ (w ++ R))).2.2 (cu T tp ([32] ++ (w ++ R))).1 tp (nI T.length) dn (nI x) (nI lo) (nI hi) = (true, upd dn x (nI m), cu T tp R) := by
  obtain ⟨k1, k2, k3, k4⟩ := hw
  have hs := h.of
  have hp := ps_app hs
  have hl := hs.of.le
  have hd : f_X4_digits (nI (ps T (w ++ R))) (nI (ps T R)) tp (nI T.length) = nI m := by
    rw [x_digitsT hT.ch hT.1 (by omega) (by omega) (isD_run hT hs k3), show ps T R - ps T (w ++ R) = w.length by omega, DV_cong (g := fun k => w.getD k 0 - 48) (fun i hi => dv_run hs hi), k4]
  rw [adv_d hT (Or.inr rfl) h k1 k3 k2 hR]
  show f_X4_readNumber 2 (nI (ps T (w ++ R))) (nI (ps T R)) tp (nI T.length) dn (nI x) (nI lo) (nI hi) = _
  unfold f_X4_readNumber S_X4_readNumber_37 S_X4_readNumber_41
  rw [if_pos rfl, hd, if_neg (fun z => absurd ((nI_ltI (by omega) (by omega)).mp z) (by omega)), if_pos (nI_le hhi (by omega)), sc_10 dn _ hx]
  unfold cu
  generalize f_X4_advance (nI (ps T R)) tp (nI T.length) = c
  rfl
theorem num_ok100 : ∀ m, m ≤ 100 → NUM (numL (nI m)) m := by
  have h : ∀ m, m ≤ 100 → numL (nI m) ≠ [] ∧ (numL (nI m)).length ≤ 3 ∧ (∀ c, c ∈ numL (nI m) → inR 48 57 c = true) ∧ DV (fun k => (numL (nI m)).getD k 0 - 48) (numL (nI m)).length = m := by decide +kernel
  exact fun m hm => h m hm
theorem sk_semi (hT : TPT T tp) {R : List Nat} (h : SFX T (59 :: R)) : f_X4_skipSemicolon (cu T tp (59 :: R)).2.1 (cu T tp (59 :: R)).2.2 (cu T tp (59 :: R)).1 tp (nI T.length) = (true, cu T tp R) := by
  rw [adv_s hT h]
  show f_X4_skipSemicolon 3 (nI (ps T (59 :: R))) (nI (ps T R)) tp (nI T.length) = _
  unfold f_X4_skipSemicolon S_X4_skipSemicolon_11
  rw [if_pos rfl]
  unfold cu
  generalize f_X4_advance (nI (ps T R)) tp (nI T.length) = c
  rfl
/-- a name of one letter -/
theorem name1 (hT : TPT T tp) {sp R : List Nat} (hsp : sp = [] ∨ sp = [32]) {c : Nat} (hc : 1 ≤ c ∧ c ≤ 26) (h : SFX T (sp ++ ([96 + c] ++ R))) (hR : HN (inR 97 122) R) : f_X4_isName (cu T tp (sp ++ ([96 + c] ++ R))).2.1 (cu T tp (sp ++ ([96 + c] ++ R))).2.2 (cu T tp (sp ++ ([96 + c] ++ R))).1 tp (nI T.length) = true ∧ f_X4_letters (cu T tp (sp ++ ([96 + c] ++ R))).2.2 (cu T tp (sp ++ ([96 + c] ++ R))).1 tp (nI T.length) = nI (c * 2 ^ 25) ∧ (cu T tp (sp ++ ([96 + c] ++ R))).1 = nI (ps T R) := by
  have hs := h.of
  have hp := ps_app hs
  have hl := hs.of.le
  rw [List.length_singleton] at hp
  have hw : ∀ d, d ∈ [96 + c] → inR 97 122 d = true := fun d hd => by
    rw [List.mem_singleton] at hd
    subst hd
    unfold inR
    rw [decide_eq_true (by omega), decide_eq_true (by omega)]
    rfl
  have hrun := isL_run hT hs hw
  have hlv : lv (uT T) (ps T ([96 + c] ++ R)) 0 = c := by
    rw [lv_run hs (k := 0) (show 0 < [96 + c].length from Nat.one_pos)]
    show 96 + c - 96 = c
    omega
  rw [adv_w hT hsp h (by simp) hw hR]
  refine ⟨?_, ?_, rfl⟩
  · show f_X4_isName 1 (nI (ps T ([96 + c] ++ R))) (nI (ps T R)) tp (nI T.length) = true
    unfold f_X4_isName
    rw [if_pos rfl, x_any hT.ch hT.1 (by omega) (by omega) hrun, show ps T R - ps T ([96 + c] ++ R) = 1 by omega, nI_sub (by omega), show ps T R - ps T ([96 + c] ++ R) = 1 by omega]
    have e : WF (lv (uT T) (ps T ([96 + c] ++ R))) 1 = c := by
      show 32 * 0 + lv (uT T) (ps T ([96 + c] ++ R)) 0 = c
      omega
    rw [e, if_neg (by decide)]
    have hk : ∀ c, c ≤ 26 → f_X12_isKey (lN c) = false := by decide +kernel
    rw [hk c hc.2]
    rfl
  · show f_X4_letters (nI (ps T ([96 + c] ++ R))) (nI (ps T R)) tp (nI T.length) = _
    rw [x_lettersT hT.ch hT.1 (by omega) (by omega) hrun, show ps T R - ps T ([96 + c] ++ R) = 1 by omega]
    refine congrArg nI ?_
    show (if 6 ≤ 0 then 0 else 0 ||| (lv (uT T) (ps T ([96 + c] ++ R)) 0 * 2 ^ (25 - 5 * 0))) = _
    rw [hlv, if_neg (by decide), Nat.zero_or]
theorem nmL_1 : ∀ c, 1 ≤ c → c ≤ 26 → nmL (c * 2 ^ 25) = [96 + c] := by
  have h : ∀ c, c ≤ 26 → 1 ≤ c → nmL (c * 2 ^ 25) = [96 + c] := by decide +kernel
  exact fun c h1 h2 => h c h2 h1
end TOK
