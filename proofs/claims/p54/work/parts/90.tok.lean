/-! the setup text, read: characters, then tokens -/
theorem whl_run {σ : Type} {f : σ → Sum σ σ} {S : Nat → σ} {e : Nat} (stop : f (S e) = .inr (S e)) : ∀ (fuel i : Nat), i ≤ e → e - i < fuel → (∀ j, i ≤ j → j < e → f (S j) = .inl (S (j + 1))) → whl_ f fuel (S i) = S e
  | 0, i, _, h, _ => absurd h (Nat.not_lt_zero _)
  | fuel + 1, i, hi, h, hs => by
    by_cases q : i = e
    · rw [q]
      exact whl_o stop
    · rw [whl_i (hs i (Nat.le_refl _) (by omega))]
      exact whl_run stop fuel (i + 1) (by omega) (by omega) (fun j h1 h2 => hs j (by omega) h2)
/-- the first place from i on where T ends -/
def eo (T : Nat → Bool) (n i : Nat) : Nat := i + wh_ (fun k => !T (i + k)) (n - i)
theorem eo_ge (T : Nat → Bool) (n i : Nat) : i ≤ eo T n i := Nat.le_add_right _ _
theorem eo_le {T : Nat → Bool} {n i : Nat} (h : i ≤ n) : eo T n i ≤ n := by
  have : wh_ (fun k => !T (i + k)) (n - i) ≤ n - i := wh_le
  unfold eo
  omega
theorem eo_in {T : Nat → Bool} {n i j : Nat} (h1 : i ≤ j) (h2 : j < eo T n i) : T j = true := by
  have := wh_no (n - i) (fun k => !T (i + k)) (j - i) (by unfold eo at h2; omega)
  have e : i + (j - i) = j := by omega
  rw [e] at this
  cases q : T j
  · rw [q] at this
    exact absurd this (by decide)
  · rfl
theorem eo_out {T : Nat → Bool} {n i : Nat} (hn : T n = false) (h : i ≤ n) : T (eo T n i) = false := by
  have := wh_yes (n - i) (fun k => !T (i + k)) ⟨n - i, Nat.le_refl _, by
    show (!T (i + (n - i))) = true
    rw [show i + (n - i) = n by omega, hn]
    rfl⟩
  cases q : T (eo T n i)
  · rfl
  · have e : T (i + wh_ (fun k => !T (i + k)) (n - i)) = true := q
    rw [e] at this
    exact absurd this (by decide)
/-- a byte of the tape -/
def byt (u : Nat) : Int32 := if u < 128 then nI u else nI u - 256
theorem byt_toInt {u : Nat} (h : u < 256) : (byt u).toInt = if u < 128 then (u : Int) else (u : Int) - 256 := by
  unfold byt
  by_cases q : u < 128
  · rw [if_pos q, if_pos q]
    exact nI_toInt (by omega)
  · rw [if_neg q, if_neg q]
    exact sub_toInt (a := u) (b := 256) (by omega) (by omega)
theorem byt_and : ∀ u, u < 256 → byt u &&& 255 = nI u := by decide +kernel
theorem byt_of {x : Int32} (h1 : -128 ≤ x.toInt) (h2 : x.toInt < 128) : ∃ u, u < 256 ∧ x = byt u := by
  refine ⟨(x.toInt % 256).toNat, by omega, Int32.toInt_inj.mp ?_⟩
  rw [byt_toInt (by omega)]
  split <;> omega
theorem nar_byte (z : Int8) : ∃ u, u < 256 ∧ vp_nar .byte z.toInt32 = byt u := by
  have e : vp_nar .byte z.toInt32 = z.toInt32.toInt8.toInt32 := rfl
  have h1 := Int8.le_toInt z.toInt32.toInt8
  have h2 := Int8.toInt_lt z.toInt32.toInt8
  have e2 : z.toInt32.toInt8.toInt32.toInt = z.toInt32.toInt8.toInt := Int8.toInt_toInt32 _
  rw [e]
  exact byt_of (by omega) (by omega)
/-- the tape's characters -/
def CH (n : Nat) (tp mTape : Nat → Int32) (u : Nat → Nat) : Prop := ∀ j, j < n → tp j = byt (u j) ∧ mTape j = byt (u j) ∧ u j < 256
theorem TA.ch {n : Nat} {tp mTape : Nat → Int32} (h : TA n tp mTape) : ∃ u, CH n tp mTape u := by
  refine ⟨fun j => ((mTape j).toInt % 256).toNat, fun j hj => ?_⟩
  obtain ⟨h1, z, h2⟩ := h j hj
  obtain ⟨u, hu, he⟩ := nar_byte z
  have e : ((mTape j).toInt % 256).toNat = u := by
    rw [h2, he, byt_toInt hu]
    split <;> omega
  dsimp only
  rw [e, h1, h2, he]
  exact ⟨rfl, rfl, hu⟩
section TK
variable {n : Nat} {tp mTape : Nat → Int32} {u : Nat → Nat}
theorem CH.at' (h : CH n tp mTape u) (hn : n ≤ 800) {j : Nat} (hj : j < n) : f_X1_at 800 tp (nI n) (nI j) = nI (u j) := by
  unfold f_X1_at
  rw [if_neg (nI_pos (by omega)), if_neg (nI_ge hj (by omega)), if_neg (nI_ge (show j < 800 by omega) (by decide)), nI_clamp (by omega), (h j hj).1, byt_and _ (h j hj).2.2]
theorem CH.at_out (hn : n ≤ 800) {j : Nat} (hj : n ≤ j) (hj2 : j < 2 ^ 31) : f_X1_at 800 tp (nI n) (nI j) = -2 := by
  unfold f_X1_at
  rw [if_neg (nI_pos (by omega)), if_pos ((nI_leI (by omega) (by omega)).mpr hj)]
def inR (lo hi : Nat) (v : Nat) : Bool := decide (lo ≤ v) && decide (v ≤ hi)
/-- a range of ASCII characters: both tests of it -/
theorem byt_lt {v c : Nat} (hv : v < 256) (hc : c < 128) : (byt v < nI c ↔ v < c ∨ 128 ≤ v) := by
  rw [Int32.lt_iff_toInt_lt, byt_toInt hv, nI_toInt (by omega)]
  split <;> omega
theorem byt_gt {v c : Nat} (hv : v < 256) (hc : c < 128) : (nI c < byt v ↔ c < v ∧ v < 128) := by
  rw [Int32.lt_iff_toInt_lt, byt_toInt hv, nI_toInt (by omega)]
  split <;> omega
theorem byt_eq {v c : Nat} (hv : v < 256) (hc : c < 128) : (byt v = nI c ↔ v = c) := by
  rw [← Int32.toInt_inj, byt_toInt hv, nI_toInt (by omega)]
  split <;> omega
theorem x_range {v lo hi : Nat} (hv : v < 256) (hl : lo < 256) (hh : hi < 256) : (if nI v < nI lo then false else (if nI hi < nI v then false else true)) = inR lo hi v := by
  unfold inR
  by_cases q : v < lo
  · rw [if_pos ((nI_ltI (by omega) (by omega)).mpr q), decide_eq_false (show ¬ lo ≤ v by omega)]
    rfl
  · rw [if_neg (fun z => q ((nI_ltI (by omega) (by omega)).mp z)), decide_eq_true (show lo ≤ v by omega)]
    by_cases q2 : hi < v
    · rw [if_pos ((nI_ltI (by omega) (by omega)).mpr q2), decide_eq_false (show ¬ v ≤ hi by omega)]
      rfl
    · rw [if_neg (fun z => q2 ((nI_ltI (by omega) (by omega)).mp z)), decide_eq_true (show v ≤ hi by omega)]
      rfl
def isL (n : Nat) (u : Nat → Nat) (j : Nat) : Bool := decide (j < n) && inR 97 122 (u j)
def isD (n : Nat) (u : Nat → Nat) (j : Nat) : Bool := decide (j < n) && inR 48 57 (u j)
def isS (n : Nat) (u : Nat → Nat) (j : Nat) : Bool := decide (j < n) && (u j == 32 || u j == 10)
theorem and_f {p : Prop} [Decidable p] {b : Bool} (h : ¬ p) : (decide p && b) = false := by rw [decide_eq_false h]; rfl
theorem and_t {p : Prop} [Decidable p] {b : Bool} (h : p) : (decide p && b) = b := by rw [decide_eq_true h]; rfl
theorem x_isL (h : CH n tp mTape u) (hn : n ≤ 800) {j : Nat} (hj : j < 2 ^ 31) : f_X4_isLetter (f_X1_at 800 tp (nI n) (nI j)) = isL n u j := by
  unfold isL
  by_cases q : j < n
  · rw [h.at' hn q, and_t q]
    exact x_range (h j q).2.2 (by decide) (by decide)
  · rw [CH.at_out hn (by omega) hj, and_f q]
    decide
theorem x_isD (h : CH n tp mTape u) (hn : n ≤ 800) {j : Nat} (hj : j < 2 ^ 31) : f_X4_isDigit (f_X1_at 800 tp (nI n) (nI j)) = isD n u j := by
  unfold isD
  by_cases q : j < n
  · rw [h.at' hn q, and_t q]
    exact x_range (h j q).2.2 (by decide) (by decide)
  · rw [CH.at_out hn (by omega) hj, and_f q]
    decide
theorem x_isS (h : CH n tp mTape u) (hn : n ≤ 800) {j : Nat} (hj : j < 2 ^ 31) : f_X4_isSpace (f_X1_at 800 tp (nI n) (nI j)) = isS n u j := by
  unfold isS
  by_cases q : j < n
  · rw [h.at' hn q, and_t q]
    have hv := (h j q).2.2
    unfold f_X4_isSpace
    by_cases q1 : u j = 32
    · rw [if_pos (show nI (u j) = 32 by rw [q1]; rfl), q1]
      rfl
    · rw [if_neg (show ¬ nI (u j) = 32 from fun z => q1 ((nI_eq (b := 32) (by omega) (by decide)).mp z))]
      by_cases q2 : u j = 10
      · rw [if_pos (show nI (u j) = 10 by rw [q2]; rfl), q2]
        rfl
      · rw [if_neg (show ¬ nI (u j) = 10 from fun z => q2 ((nI_eq (b := 10) (by omega) (by decide)).mp z))]
        simp [q1, q2]
  · rw [CH.at_out hn (by omega) hj, and_f q]
    decide
theorem m_range (h : CH n tp mTape u) (hn : n ≤ 800) {j : Nat} (hj : j < 2 ^ 31) {lo hi : Nat} (hl : lo < 128) (hh : hi < 128) : f_X12_isByte (nI n) (nI j) mTape (nI lo) (nI hi) = (decide (j < n) && inR lo hi (u j)) := by
  unfold f_X12_isByte
  by_cases q : j < n
  · obtain ⟨-, h2, h3⟩ := h j q
    rw [if_neg (nI_ge q (by omega)), nI_clamp hj, h2, and_t q]
    unfold inR
    by_cases q1 : byt (u j) < nI lo
    · rw [if_pos q1]
      have := (byt_lt h3 hl).mp q1
      by_cases q3 : lo ≤ u j
      · rw [decide_eq_true q3, decide_eq_false (show ¬ u j ≤ hi by omega)]
        rfl
      · rw [decide_eq_false q3]
        rfl
    · rw [if_neg q1]
      have z := fun w => q1 ((byt_lt h3 hl).mpr w)
      rw [decide_eq_true (show lo ≤ u j from Nat.le_of_not_lt (fun w => z (Or.inl w)))]
      by_cases q2 : nI hi < byt (u j)
      · rw [if_pos q2, decide_eq_false (show ¬ u j ≤ hi from fun w => by have := (byt_gt h3 hh).mp q2; omega)]
        rfl
      · rw [if_neg q2, decide_eq_true (show u j ≤ hi from Nat.le_of_not_lt (fun w => q2 ((byt_gt h3 hh).mpr ⟨w, Nat.lt_of_not_le (fun w2 => z (Or.inr w2))⟩)))]
        rfl
  · rw [if_pos ((nI_leI (by omega) (by omega)).mpr (by omega)), and_f q]
theorem isL_n (n : Nat) (u : Nat → Nat) : isL n u n = false := and_f (Nat.lt_irrefl n)
theorem isD_n (n : Nat) (u : Nat → Nat) : isD n u n = false := and_f (Nat.lt_irrefl n)
theorem isS_n (n : Nat) (u : Nat → Nat) : isS n u n = false := and_f (Nat.lt_irrefl n)
theorem isL_lt {j : Nat} (h : isL n u j = true) : j < n ∧ 97 ≤ u j ∧ u j ≤ 122 := by
  unfold isL inR at h
  simp only [Bool.and_eq_true, decide_eq_true_eq] at h
  exact h
theorem isD_lt {j : Nat} (h : isD n u j = true) : j < n ∧ 48 ≤ u j ∧ u j ≤ 57 := by
  unfold isD inR at h
  simp only [Bool.and_eq_true, decide_eq_true_eq] at h
  exact h
/-- white space skipped -/
theorem x_skip (h : CH n tp mTape u) (hn : n ≤ 800) {i : Nat} (hi : i ≤ n) : X_X4_advance_8 (nI i) tp (nI n) = nI (eo (isS n u) n i) := by
  have hle := eo_le (T := isS n u) hi
  refine whl_run (S := fun j => nI j) (e := eo (isS n u) n i) ?_ 801 i (eo_ge _ _ _) (by omega) (fun j h1 h2 => ?_)
  · show T_X4_advance_8 tp (nI n) (nI (eo (isS n u) n i)) = .inr (nI (eo (isS n u) n i))
    unfold T_X4_advance_8
    rw [x_isS h hn (by omega), eo_out (isS_n n u) hi]
    split
    · rfl
    · rfl
  · show T_X4_advance_8 tp (nI n) (nI j) = .inl (nI (j + 1))
    unfold T_X4_advance_8
    rw [if_neg (nI_ge (show j < n by omega) (by omega)), x_isS h hn (by omega), eo_in h1 h2, nI_1]
    rfl
theorem m_skip (h : CH n tp mTape u) (hn : n ≤ 800) {i : Nat} (hi : i ≤ n) : X_X12_next_0 (nI n) (nI i) mTape = nI (eo (isS n u) n i) := by
  have hle := eo_le (T := isS n u) hi
  have key : ∀ j, j ≤ n → T_X12_next_0 (nI n) mTape (nI j) = bif isS n u j then .inl (nI (j + 1)) else .inr (nI j) := fun j hj => by
    unfold T_X12_next_0 isS
    by_cases q : j < n
    · obtain ⟨-, h2, h3⟩ := h j q
      rw [if_neg (nI_ge q (by omega)), nI_clamp (by omega), h2, and_t q]
      by_cases q1 : u j = 32
      · rw [if_pos (show byt (u j) = 32 from (byt_eq (c := 32) h3 (by decide)).mpr q1), q1, nI_1]
        rfl
      · rw [if_neg (show ¬ byt (u j) = 32 from fun z => q1 ((byt_eq (c := 32) h3 (by decide)).mp z))]
        by_cases q2 : u j = 10
        · rw [if_pos (show byt (u j) = 10 from (byt_eq (c := 10) h3 (by decide)).mpr q2), q2, nI_1]
          rfl
        · rw [if_neg (show ¬ byt (u j) = 10 from fun z => q2 ((byt_eq (c := 10) h3 (by decide)).mp z))]
          have : (u j == 32 || u j == 10) = false := by simp [q1, q2]
          rw [this]
          rfl
    · rw [if_pos ((nI_leI (by omega) (by omega)).mpr (by omega)), and_f q]
      rfl
  refine whl_run (S := fun j => nI j) (e := eo (isS n u) n i) ?_ 801 i (eo_ge _ _ _) (by omega) (fun j h1 h2 => ?_)
  · rw [key _ hle, eo_out (isS_n n u) hi]
    rfl
  · rw [key _ (by omega), eo_in h1 h2]
    rfl
theorem x_word (h : CH n tp mTape u) (hn : n ≤ 800) {i : Nat} (hi : i ≤ n) : whl_ (T_X4_advance_77 tp (nI n)) 801 (nI i) = nI (eo (isL n u) n i) := by
  have hle := eo_le (T := isL n u) hi
  refine whl_run (S := fun j => nI j) (e := eo (isL n u) n i) ?_ 801 i (eo_ge _ _ _) (by omega) (fun j h1 h2 => ?_)
  · show T_X4_advance_77 tp (nI n) (nI (eo (isL n u) n i)) = .inr (nI (eo (isL n u) n i))
    unfold T_X4_advance_77
    rw [x_isL h hn (by omega), eo_out (isL_n n u) hi]
    split
    · rfl
    · rfl
  · show T_X4_advance_77 tp (nI n) (nI j) = .inl (nI (j + 1))
    unfold T_X4_advance_77
    rw [if_neg (nI_ge (show j < n by omega) (by omega)), x_isL h hn (by omega), eo_in h1 h2, nI_1]
    rfl
theorem x_int (h : CH n tp mTape u) (hn : n ≤ 800) {i : Nat} (hi : i ≤ n) : whl_ (T_X4_advance_146 tp (nI n)) 801 (nI i) = nI (eo (isD n u) n i) := by
  have hle := eo_le (T := isD n u) hi
  refine whl_run (S := fun j => nI j) (e := eo (isD n u) n i) ?_ 801 i (eo_ge _ _ _) (by omega) (fun j h1 h2 => ?_)
  · show T_X4_advance_146 tp (nI n) (nI (eo (isD n u) n i)) = .inr (nI (eo (isD n u) n i))
    unfold T_X4_advance_146
    rw [x_isD h hn (by omega), eo_out (isD_n n u) hi]
    split
    · rfl
    · rfl
  · show T_X4_advance_146 tp (nI n) (nI j) = .inl (nI (j + 1))
    unfold T_X4_advance_146
    rw [if_neg (nI_ge (show j < n by omega) (by omega)), x_isD h hn (by omega), eo_in h1 h2, nI_1]
    rfl
end TK
