/-! words and numbers of the setup text: what both sides make of their characters -/
/-- letters packed, five bits each, six at most -/
def LTv (f : Nat → Nat) : Nat → Nat
  | 0 => 0
  | m + 1 => if 6 ≤ m then LTv f m else LTv f m ||| (f m * 2 ^ (25 - 5 * m))
/-- letters as a number to the base 32 -/
def WF (f : Nat → Nat) : Nat → Nat
  | 0 => 0
  | m + 1 => 32 * WF f m + f m
/-- digits as a number -/
def DV (f : Nat → Nat) : Nat → Nat
  | 0 => 0
  | m + 1 => 10 * DV f m + f m
theorem LTv_lt {f : Nat → Nat} : ∀ {m : Nat}, (∀ k, k < m → f k < 32) → LTv f m < 2 ^ 30
  | 0, _ => show 0 < 2 ^ 30 by decide
  | m + 1, h => by
    have ih := LTv_lt (m := m) (fun k hk => h k (by omega))
    rw [LTv]
    split
    · exact ih
    · rename_i q
      refine Nat.or_lt_two_pow ih ?_
      have h1 := h m (by omega)
      have h2 : f m * 2 ^ (25 - 5 * m) < 32 * 2 ^ (25 - 5 * m) := Nat.mul_lt_mul_of_pos_right h1 (Nat.two_pow_pos _)
      have h3 : 32 * 2 ^ (25 - 5 * m) = 2 ^ (5 + (25 - 5 * m)) := (Nat.pow_add 2 5 _).symm
      have h4 : 2 ^ (5 + (25 - 5 * m)) ≤ 2 ^ 30 := Nat.pow_le_pow_right (by decide) (by omega)
      omega
theorem LTv_ge {f : Nat → Nat} : ∀ {m : Nat}, 6 ≤ m → LTv f m = LTv f 6
  | 0, h => absurd h (by decide)
  | m + 1, h => by
    by_cases q : 6 ≤ m
    · rw [LTv, if_pos q]
      exact LTv_ge q
    · rw [show m + 1 = 6 by omega]
theorem WF_lt {f : Nat → Nat} : ∀ {m : Nat}, (∀ k, k < m → f k < 32) → WF f m < 32 ^ m
  | 0, _ => show 0 < 32 ^ 0 by decide
  | m + 1, h => by
    have ih := WF_lt (m := m) (fun k hk => h k (by omega))
    have := h m (by omega)
    rw [WF, Nat.pow_succ]
    omega
theorem WF_inj {f g : Nat → Nat} : ∀ {m k : Nat}, (∀ i, i < m → 1 ≤ f i ∧ f i < 32) → (∀ i, i < k → 1 ≤ g i ∧ g i < 32) → WF f m = WF g k → m = k ∧ ∀ i, i < m → f i = g i
  | 0, 0, _, _, _ => ⟨rfl, fun i hi => absurd hi (Nat.not_lt_zero _)⟩
  | 0, k + 1, _, hg, e => by
    rw [WF, WF] at e
    have := (hg k (by omega)).1
    omega
  | m + 1, 0, hf, _, e => by
    rw [WF, WF] at e
    have := (hf m (by omega)).1
    omega
  | m + 1, k + 1, hf, hg, e => by
    rw [WF, WF] at e
    have h1 := hf m (by omega)
    have h2 := hg k (by omega)
    have e1 : f m = g k := by omega
    have e2 : WF f m = WF g k := by omega
    obtain ⟨r1, r2⟩ := WF_inj (fun i hi => hf i (by omega)) (fun i hi => hg i (by omega)) e2
    refine ⟨by omega, fun i hi => ?_⟩
    by_cases q : i = m
    · rw [q, e1, r1]
    · exact r2 i (by omega)
theorem WF_cong {f g : Nat → Nat} : ∀ {m : Nat}, (∀ i, i < m → f i = g i) → WF f m = WF g m
  | 0, _ => rfl
  | m + 1, h => by rw [WF, WF, WF_cong (fun i hi => h i (by omega)), h m (by omega)]
theorem DV_lt {f : Nat → Nat} : ∀ {m : Nat}, (∀ k, k < m → f k < 10) → DV f m < 10 ^ m
  | 0, _ => show 0 < 10 ^ 0 by decide
  | m + 1, h => by
    have ih := DV_lt (m := m) (fun k hk => h k (by omega))
    have := h m (by omega)
    rw [DV, Nat.pow_succ]
    omega
theorem lN_big {a : Nat} (h : a < 2 ^ 62) : (lN a).toInt = (a : Int) := lg_ofNat_toInt (by omega)
theorem lN_inj {a b : Nat} (ha : a < 2 ^ 62) (hb : b < 2 ^ 62) : lN a = lN b ↔ a = b := by
  rw [← Int64.toInt_inj, lN_big ha, lN_big hb]
  omega
/-- the keywords -/
def Kx (x : Nat) : Int64 := ([642829806, 645974195, 398963, 12748404, 3197529, 50861100, 623961094803, 80948, 542723566, 486] : List Int64).getD x 0
def kv (x k : Nat) : Nat := (sCh x (nI k)).toNatClampNeg - 96
theorem kv_all : ∀ x, x < 10 → strLen.getD x 0 ≤ 8 ∧ lN (WF (kv x) (strLen.getD x 0)) = Kx x ∧ WF (kv x) (strLen.getD x 0) < 2 ^ 62 ∧ ∀ k, k < strLen.getD x 0 → sCh x (nI k) = nI (96 + kv x k) ∧ 1 ≤ kv x k ∧ kv x k < 32 := by decide +kernel
theorem shl_v5 : ∀ k, k < 6 → ∀ v, v < 32 → (nI v <<< (sh5 k &&& 31)) = nI (v * 2 ^ (25 - 5 * k)) := by decide +kernel
theorem bif_dec {α : Type} (p : Prop) [Decidable p] (a b : α) : (bif decide p then a else b) = if p then a else b := by
  by_cases h : p
  · rw [decide_eq_true h, if_pos h]; rfl
  · rw [decide_eq_false h, if_neg h]; rfl
section KW
variable {n : Nat} {tp mTape : Nat → Int32} {u : Nat → Nat}
/-- the value of the m-th letter, digit from i on -/
def lv (u : Nat → Nat) (i m : Nat) : Nat := u (i + m) - 96
def dv (u : Nat → Nat) (i m : Nat) : Nat := u (i + m) - 48
theorem byt_low {v : Nat} (h : v < 128) : byt v = nI v := if_pos h
theorem m_isL (h : CH n tp mTape u) (hn : n ≤ 800) {j : Nat} (hj : j < 2 ^ 31) : f_X12_isByte (nI n) (nI j) mTape 97 122 = isL n u j := m_range h hn hj (lo := 97) (hi := 122) (by decide) (by decide)
theorem m_isD (h : CH n tp mTape u) (hn : n ≤ 800) {j : Nat} (hj : j < 2 ^ 31) : f_X12_isByte (nI n) (nI j) mTape 48 57 = isD n u j := m_range h hn hj (lo := 48) (hi := 57) (by decide) (by decide)
def SW_ (u : Nat → Nat) (i j : Nat) : Int32 × Int32 × Int64 := (nI (LTv (lv u i) (j - i)), nI j, if j - i ≤ 8 then lN (WF (lv u i) (j - i)) else 0)
theorem m_word (h : CH n tp mTape u) (hn : n ≤ 800) {i : Nat} (hi : i ≤ n) : X_X12_nextWord_10 (nI n) (nI i) (nI i) mTape = SW_ u i (eo (isL n u) n i) := by
  have hle := eo_le (T := isL n u) hi
  have e0 : ((0 : Int32), nI i, (0 : Int64)) = SW_ u i i := by
    unfold SW_
    rw [Nat.sub_self, if_pos (Nat.zero_le _)]
    rfl
  unfold X_X12_nextWord_10
  rw [e0]
  refine whl_run (S := SW_ u i) (e := eo (isL n u) n i) ?_ 801 i (eo_ge _ _ _) (by omega) (fun j h1 h2 => ?_)
  · unfold T_X12_nextWord_10
    rw [show (SW_ u i (eo (isL n u) n i)).2.1 = nI (eo (isL n u) n i) from rfl, m_isL h hn (by omega), eo_out (isL_n n u) hi]
    rfl
  · have hL := isL_lt (eo_in h1 h2)
    have hu := h j hL.1
    have em : mTape (nI j).toNatClampNeg = nI (u j) := by rw [nI_clamp (by omega), hu.2.1, byt_low (by omega)]
    have e96 : mTape (nI j).toNatClampNeg - 96 = nI (lv u i (j - i)) := by
      rw [em, show (96 : Int32) = nI 96 from rfl, pk_sub (by omega)]
      unfold lv
      rw [show i + (j - i) = j by omega]
    have hl : lv u i (j - i) < 32 := by
      unfold lv
      rw [show i + (j - i) = j by omega]
      omega
    have es : (nI j - nI i : Int32) = nI (j - i) := pk_sub (by omega)
    have a1 : nI (LTv (lv u i) (j - i)) ||| J_X12_nextWord_52 (nI i) mTape (SW_ u i j) = nI (LTv (lv u i) (j - i + 1)) := by
      show nI (LTv (lv u i) (j - i)) ||| (if 6 ≤ nI j - nI i then (0 : Int32) else ((mTape (nI j).toNatClampNeg - 96) <<< ((25 - (5 * (nI j - nI i))) &&& 31))) = _
      rw [es, e96, LTv]
      by_cases q : 6 ≤ j - i
      · rw [if_pos (show (6 : Int32) ≤ nI (j - i) from nI_le (a := 6) q (by omega)), if_pos q, or0]
      · rw [if_neg (show ¬ (6 : Int32) ≤ nI (j - i) from nI_ge (b := 6) (by omega) (by decide)), if_neg q]
        have := shl_v5 (j - i) (by omega) _ hl
        unfold sh5 at this
        rw [this, or_nI]
    have a3 : J_X12_nextWord_75 (nI i) mTape (SW_ u i j) = if j - i + 1 ≤ 8 then lN (WF (lv u i) (j - i + 1)) else 0 := by
      show (if 8 ≤ nI j - nI i then (0 : Int64) else ((32 * (if j - i ≤ 8 then lN (WF (lv u i) (j - i)) else 0)) + (mTape (nI j).toNatClampNeg - 96).toInt64)) = _
      rw [es, e96, WF]
      by_cases q : 8 ≤ j - i
      · rw [if_pos (show (8 : Int32) ≤ nI (j - i) from nI_le (a := 8) q (by omega)), if_neg (show ¬ j - i + 1 ≤ 8 by omega)]
      · rw [if_neg (show ¬ (8 : Int32) ≤ nI (j - i) from nI_ge (b := 8) (by omega) (by decide)), if_pos (show j - i ≤ 8 by omega), if_pos (show j - i + 1 ≤ 8 by omega), nI_l (by omega), show (32 : Int64) = lN 32 from rfl, lN_mul, lN_add]
    unfold T_X12_nextWord_10
    rw [show (SW_ u i j).2.1 = nI j from rfl, m_isL h hn (by omega), eo_in h1 h2, show (SW_ u i j).1 = nI (LTv (lv u i) (j - i)) from rfl, a1, a3, nI_1]
    show Sum.inl _ = Sum.inl (SW_ u i (j + 1))
    unfold SW_
    rw [show j + 1 - i = j - i + 1 by omega]
def SD_ (u : Nat → Nat) (i j : Nat) : Int32 × Int32 := (nI j, nI (DV (dv u i) (min (j - i) 3)))
theorem m_int (h : CH n tp mTape u) (hn : n ≤ 800) {i : Nat} (hi : i ≤ n) : X_X12_nextInt_5 (nI n) (nI i) (nI i) mTape = SD_ u i (eo (isD n u) n i) := by
  have hle := eo_le (T := isD n u) hi
  have e0 : (nI i, (0 : Int32)) = SD_ u i i := by
    unfold SD_
    rw [Nat.sub_self]
    rfl
  unfold X_X12_nextInt_5
  rw [e0]
  refine whl_run (S := SD_ u i) (e := eo (isD n u) n i) ?_ 801 i (eo_ge _ _ _) (by omega) (fun j h1 h2 => ?_)
  · unfold T_X12_nextInt_5
    rw [show (SD_ u i (eo (isD n u) n i)).1 = nI (eo (isD n u) n i) from rfl, m_isD h hn (by omega), eo_out (isD_n n u) hi]
    rfl
  · have hL := isD_lt (eo_in h1 h2)
    have hu := h j hL.1
    have em : mTape (nI j).toNatClampNeg = nI (u j) := by rw [nI_clamp (by omega), hu.2.1, byt_low (by omega)]
    have es : (nI j - nI i : Int32) = nI (j - i) := pk_sub (by omega)
    have a2 : J_X12_nextInt_27 (nI i) mTape (SD_ u i j) = nI (DV (dv u i) (min (j + 1 - i) 3)) := by
      show (if 3 ≤ nI j - nI i then nI (DV (dv u i) (min (j - i) 3)) else (((10 * nI (DV (dv u i) (min (j - i) 3))) + mTape (nI j).toNatClampNeg) - 48)) = _
      rw [es, em]
      by_cases q : 3 ≤ j - i
      · rw [if_pos (show (3 : Int32) ≤ nI (j - i) from nI_le (a := 3) q (by omega)), Nat.min_eq_right q, Nat.min_eq_right (show 3 ≤ j + 1 - i by omega)]
      · rw [if_neg (show ¬ (3 : Int32) ≤ nI (j - i) from nI_ge (b := 3) (by omega) (by decide)), Nat.min_eq_left (show j - i ≤ 3 by omega), Nat.min_eq_left (show j + 1 - i ≤ 3 by omega), show j + 1 - i = j - i + 1 by omega, DV, show (10 : Int32) * nI (DV (dv u i) (j - i)) = nI (10 * DV (dv u i) (j - i)) from (Int32.ofNat_mul 10 _).symm, nI_add, show (48 : Int32) = nI 48 from rfl, pk_sub (by omega)]
        unfold dv
        rw [show i + (j - i) = j by omega, Nat.add_sub_assoc (by omega)]
    unfold T_X12_nextInt_5
    rw [show (SD_ u i j).1 = nI j from rfl, m_isD h hn (by omega), eo_in h1 h2, a2, nI_1]
    rfl
theorem x_digitsT (h : CH n tp mTape u) (hn : n ≤ 800) {i e : Nat} (hi : i ≤ e) (he : e ≤ n) (hd : ∀ j, i ≤ j → j < e → isD n u j = true) : f_X4_digits (nI i) (nI e) tp (nI n) = nI (DV (dv u i) (e - i)) := by
  have key : ∀ m, i + m ≤ e → L_X4_digits_7 (nI i) tp (nI n) m = nI (DV (dv u i) m) := fun m => by
    induction m with
    | zero => exact fun _ => iter_z _ _
    | succ m ih =>
      intro hm
      have hL := isD_lt (hd (i + m) (by omega) (by omega))
      refine (iter_s _ _ _).trans ?_
      show ((L_X4_digits_7 (nI i) tp (nI n) m * 10) + f_X1_at 800 tp (nI n) (ofs_ (nI i) m)) - 48 = _
      rw [ih (by omega), ofs_nI, h.at' hn (by omega), DV, show nI (DV (dv u i) m) * (10 : Int32) = nI (DV (dv u i) m * 10) from (Int32.ofNat_mul _ 10).symm, nI_add, show (48 : Int32) = nI 48 from rfl, pk_sub (by omega), Nat.mul_comm, Nat.add_sub_assoc (by omega)]
      rfl
  unfold f_X4_digits
  rw [nI_clamp (by omega), nI_clamp (by omega)]
  exact key _ (by omega)
theorem x_lettersT (h : CH n tp mTape u) (hn : n ≤ 800) {i e : Nat} (hi : i ≤ e) (he : e ≤ n) (hd : ∀ j, i ≤ j → j < e → isL n u j = true) : f_X4_letters (nI i) (nI e) tp (nI n) = nI (LTv (lv u i) (e - i)) := by
  have key : ∀ m, m ≤ 6 → i + m ≤ e → L_X4_letters_10 (nI i) tp (nI n) m = (sh5 m, nI (LTv (lv u i) m)) := fun m => by
    induction m with
    | zero => exact fun _ _ => (iter_z _ _).trans rfl
    | succ m ih =>
      intro h6 hm
      have hL := isL_lt (hd (i + m) (by omega) (by omega))
      refine (iter_s _ _ _).trans ?_
      show G_X4_letters_10 (nI i) tp (nI n) m (L_X4_letters_10 (nI i) tp (nI n) m) = _
      rw [ih (by omega) (by omega)]
      unfold G_X4_letters_10
      have e1 : (nI (u (i + m)) - 97 + 1 : Int32) = nI (lv u i m) := by
        rw [show (97 : Int32) = nI 97 from rfl, pk_sub (by omega), nI_1]
        unfold lv
        rw [show u (i + m) - 97 + 1 = u (i + m) - 96 by omega]
      have e2 : lv u i m < 32 := by
        unfold lv
        omega
      rw [ofs_nI, h.at' hn (by omega)]
      show (sh5 m + (-5), nI (LTv (lv u i) m) ||| ((nI (u (i + m)) - 97 + 1) <<< (sh5 m &&& 31))) = _
      rw [e1, shl_v5 m (by omega) _ e2, or_nI, LTv, if_neg (by omega)]
      exact congrArg (fun z => (z, nI (LTv (lv u i) m ||| lv u i m * 2 ^ (25 - 5 * m)))) (sh5_s m)
  unfold f_X4_letters
  rw [nI_clamp (by omega), nI_clamp (by omega)]
  by_cases q : e - i ≤ 6
  · rw [Nat.min_eq_left q, key _ q (by omega)]
  · rw [Nat.min_eq_right (by omega), key 6 (Nat.le_refl _) (by omega), LTv_ge (m := e - i) (by omega)]
theorem fst_all {P : Nat → Prop} [∀ k, Decidable (P k)] : ∀ m, (fst_ (fun k => if P k then none else some false) m).getD true = decide (∀ k, k < m → P k) := fun m => by
  by_cases q : ∀ k, k < m → P k
  · rw [fst_no (fun j hj => if_pos (q j hj)), decide_eq_true q]
    rfl
  · rw [decide_eq_false q]
    have key : ∀ m, (¬ ∀ k, k < m → P k) → fst_ (fun k => if P k then none else some false) m = some false := fun m => by
      induction m with
      | zero => exact fun z => absurd (fun k hk => absurd hk (Nat.not_lt_zero _)) z
      | succ m ih =>
        intro z
        by_cases w : ∀ k, k < m → P k
        · have hm : ¬ P m := fun y => z (fun k hk => by
            by_cases e : k = m
            · rw [e]; exact y
            · exact w k (by omega))
          exact fst_s (fst_no (fun j hj => if_pos (w j hj))) (if_neg hm) (Nat.lt_succ_self m)
        · exact fst_keep (ih w) 1
    rw [key m q]
    rfl
/-- whether a word is this keyword -/
theorem x_reads (h : CH n tp mTape u) (hn : n ≤ 800) {i e : Nat} (hi : i ≤ e) (he : e ≤ n) (hd : ∀ j, i ≤ j → j < e → isL n u j = true) {x : Nat} (hx : x < 10) : f_X4_reads (nI i) (nI e) tp (nI n) x = (decide (e - i ≤ 8) && decide (lN (WF (lv u i) (e - i)) = Kx x)) := by
  obtain ⟨k1, k2, k3, k4⟩ := kv_all x hx
  have hl : ∀ m, m < e - i → 1 ≤ lv u i m ∧ lv u i m < 32 := fun m hm => by
    have := isL_lt (hd (i + m) (by omega) (by omega))
    unfold lv
    omega
  unfold f_X4_reads
  rw [pk_sub (by omega)]
  by_cases q : e - i = strLen.getD x 0
  · rw [if_pos (by rw [q])]
    have hq : e - i ≤ 8 := by omega
    have hb : WF (lv u i) (e - i) < 2 ^ 62 := Nat.lt_of_lt_of_le (WF_lt (fun k hk => (hl k hk).2)) (Nat.le_trans (Nat.pow_le_pow_right (by decide) hq) (by decide))
    rw [decide_eq_true hq, Bool.true_and]
    refine (fst_all (P := fun k => f_X1_at 800 tp (nI n) (nI i + nI k) = sCh x (nI k)) _).trans ?_
    refine decide_eq_decide.mpr ⟨fun w => ?_, fun w => ?_⟩
    · rw [← k2, ← q]
      refine congrArg lN (WF_cong (fun m hm => ?_))
      have w1 := w m (by omega)
      have hL := isL_lt (hd (i + m) (by omega) (by omega))
      have k5 := k4 m (by omega)
      rw [nI_add, h.at' hn (by omega), k5.1] at w1
      have := (nI_eq (by omega) (by omega)).mp w1
      unfold lv
      omega
    · rw [← k2] at w
      have w2 := (WF_inj hl (fun k hk => (k4 k hk).2) ((lN_inj hb k3).mp w)).2
      intro m hm
      have hL := isL_lt (hd (i + m) (by omega) (by omega))
      have w3 := w2 m (by omega)
      rw [nI_add, h.at' hn (by omega), (k4 m hm).1, ← w3]
      unfold lv
      rw [show 96 + (u (i + m) - 96) = u (i + m) by omega]
  · rw [if_neg (fun z => q ((nI_eq (by omega) (by omega)).mp z))]
    by_cases q2 : e - i ≤ 8
    · have hb : WF (lv u i) (e - i) < 2 ^ 62 := Nat.lt_of_lt_of_le (WF_lt (fun k hk => (hl k hk).2)) (Nat.le_trans (Nat.pow_le_pow_right (by decide) q2) (by decide))
      rw [decide_eq_true q2, decide_eq_false (fun w => by
        rw [← k2] at w
        exact q (WF_inj hl (fun k hk => (k4 k hk).2) ((lN_inj hb k3).mp w)).1)]
      rfl
    · rw [decide_eq_false q2]
      rfl
theorem x_any (h : CH n tp mTape u) (hn : n ≤ 800) {i e : Nat} (hi : i ≤ e) (he : e ≤ n) (hd : ∀ j, i ≤ j → j < e → isL n u j = true) : f_X4_isAnyKeyword (nI i) (nI e) tp (nI n) = (decide (e - i ≤ 8) && f_X12_isKey (lN (WF (lv u i) (e - i)))) := by
  have r : ∀ x, x < 10 → f_X4_reads (nI i) (nI e) tp (nI n) x = (decide (e - i ≤ 8) && decide (lN (WF (lv u i) (e - i)) = Kx x)) := fun x hx => x_reads h hn hi he hd hx
  unfold f_X4_isAnyKeyword
  rw [r 0 (by decide), r 1 (by decide), r 2 (by decide), r 3 (by decide), r 4 (by decide), r 5 (by decide), r 6 (by decide), r 7 (by decide), r 8 (by decide), r 9 (by decide)]
  by_cases q : e - i ≤ 8
  · rw [decide_eq_true q]
    simp only [Bool.true_and, bif_dec]
    exact (rfl : f_X12_isKey (lN (WF (lv u i) (e - i))) = _)
  · rw [decide_eq_false q]
    rfl
end KW
