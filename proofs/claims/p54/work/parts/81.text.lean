/-! texts: a text as a list of numbers; the class writes it, the reference says it -/
noncomputable def aL (s : (Nat → Int32) × Int32) (L : List Nat) : (Nat → Int32) × Int32 := L.foldl (fun s c => f_X1_add 2048 s.1 s.2 (nI c)) s
def sL (w : Int32) (s : Int32 × Int32) (L : List Nat) : Int32 × Int32 := L.foldl (fun s c => f_X12_says s.2 w s.1 (nI c)) s
theorem aL_app (s : (Nat → Int32) × Int32) (L M : List Nat) : aL (aL s L) M = aL s (L ++ M) := (List.foldl_append).symm
theorem sL_app (w : Int32) (s : Int32 × Int32) (L M : List Nat) : sL w (sL w s L) M = sL w s (L ++ M) := (List.foldl_append).symm
theorem aL_1 (s : (Nat → Int32) × Int32) (c : Nat) : f_X1_add 2048 s.1 s.2 (nI c) = aL s [c] := rfl
theorem sL_1 (w : Int32) (s : Int32 × Int32) (c : Nat) : f_X12_says s.2 w s.1 (nI c) = sL w s [c] := rfl
theorem byte_128 : ∀ c, c < 128 → vp_nar .byte (nI c).toInt8.toInt32 = nI c := by decide +kernel
theorem and_255 : ∀ c, c < 128 → nI c &&& 255 = nI c := by decide +kernel
/-- what lies there when a text is written from its start on -/
theorem aL_all (f : Nat → Int32) : ∀ (L : List Nat) (k : Nat), k + L.length ≤ 2048 → (∀ c, c ∈ L → c < 128) → (aL (f, nI k) L).2 = nI (k + L.length) ∧ (∀ j, j < k → (aL (f, nI k) L).1 j = f j) ∧ ∀ j, j < L.length → (aL (f, nI k) L).1 (k + j) = nI (L.getD j 0)
  | [], k, _, _ => ⟨rfl, fun _ _ => rfl, fun j hj => absurd hj (Nat.not_lt_zero j)⟩
  | c :: L, k, hk, hc => by
    have hlen : (c :: L).length = L.length + 1 := rfl
    rw [hlen] at hk
    have hc1 := hc c (List.mem_cons_self ..)
    have e : f_X1_add 2048 f (nI k) (nI c) = (upd f k (nI c), nI (k + 1)) := by
      unfold f_X1_add
      rw [if_neg (nI_pos (by omega)), if_pos (nI_lt (by omega) (by omega)), nI_clamp (by omega), byte_128 c hc1, nI_1]
    have e2 : aL (f, nI k) (c :: L) = aL (upd f k (nI c), nI (k + 1)) L := by
      show aL (f_X1_add 2048 f (nI k) (nI c)) L = _
      rw [e]
    obtain ⟨h1, h2, h3⟩ := aL_all (upd f k (nI c)) L (k + 1) (by omega) (fun d hd => hc d (List.mem_cons_of_mem _ hd))
    rw [e2]
    refine ⟨h1.trans (congrArg nI (by omega)), fun j hj => ?_, fun j hj => ?_⟩
    · rw [h2 j (by omega), upd_ne (by omega)]
    · match j, hj with
      | 0, _ =>
        show (aL (upd f k (nI c), nI (k + 1)) L).1 (k + 0) = nI c
        rw [h2 (k + 0) (by omega)]
        exact upd_eq
      | j + 1, hj =>
        have := h3 j (by omega)
        rw [show k + (j + 1) = k + 1 + j by omega, this]
        rfl
theorem sL_all (w : Int32) : ∀ (L : List Nat) (k : Nat) (fnd : Int32), k + L.length < 2 ^ 30 → (sL w (fnd, nI k) L).2 = nI (k + L.length) ∧ ((∀ j, j < L.length → ¬ w = nI (k + j)) → (sL w (fnd, nI k) L).1 = fnd) ∧ ∀ j, j < L.length → w = nI (k + j) → (sL w (fnd, nI k) L).1 = nI (L.getD j 0)
  | [], k, fnd, _ => ⟨rfl, fun _ => rfl, fun j hj => absurd hj (Nat.not_lt_zero j)⟩
  | c :: L, k, fnd, hk => by
    have hlen : (c :: L).length = L.length + 1 := rfl
    rw [hlen] at hk
    have e : f_X12_says (nI k) w fnd (nI c) = ((if nI k = w then nI c else fnd), nI (k + 1)) := by
      unfold f_X12_says J_X12_says_9
      rw [nI_1]
    have e2 : sL w (fnd, nI k) (c :: L) = sL w ((if nI k = w then nI c else fnd), nI (k + 1)) L := by
      show sL w (f_X12_says (nI k) w fnd (nI c)) L = _
      rw [e]
    obtain ⟨h1, h2, h3⟩ := sL_all w L (k + 1) (if nI k = w then nI c else fnd) (by omega)
    rw [e2]
    refine ⟨h1.trans (congrArg nI (by omega)), fun hn => ?_, fun j hj hw => ?_⟩
    · rw [h2 (fun j hj => by have := hn (j + 1) (by omega); rwa [show k + (j + 1) = k + 1 + j by omega] at this), if_neg (fun z => hn 0 (by omega) z.symm)]
    · match j, hj with
      | 0, _ =>
        have hw0 : w = nI k := hw
        rw [h2 (fun j hj z => by
          rw [hw0] at z
          have := (nI_eq (by omega) (by omega)).mp z
          omega), if_pos hw0.symm]
        rfl
      | j + 1, hj =>
        rw [h3 j (by omega) (by rw [hw]; exact congrArg nI (by omega))]
        rfl
/-- length and bytes agree -/
theorem txt_len {tx : Nat → Int32} {txl i : Int32} {L : List Nat} (h0 : ¬ txl < 0) (hl : L.length ≤ 2048) (hc : ∀ c, c ∈ L → c < 128) : (aL (tx, f_X1_cutTo txl 0) L).2 = (sL i (-2, 0) L).2 := by
  have e : f_X1_cutTo txl 0 = nI 0 := by
    unfold f_X1_cutTo
    rw [if_neg (by decide), if_neg h0]
    rfl
  rw [e, (aL_all tx L 0 (by omega) hc).1]
  exact ((sL_all i L 0 (-2) (by omega)).1).symm
theorem txt_byte {tx : Nat → Int32} {txl i : Int32} {L : List Nat} (h0 : ¬ txl < 0) (hi : 0 ≤ i) (hl : L.length ≤ 2048) (hc : ∀ c, c ∈ L → c < 128) : f_X1_at 2048 (aL (tx, f_X1_cutTo txl 0) L).1 (aL (tx, f_X1_cutTo txl 0) L).2 i = (sL i (-2, 0) L).1 := by
  have e : f_X1_cutTo txl 0 = nI 0 := by
    unfold f_X1_cutTo
    rw [if_neg (by decide), if_neg h0]
    rfl
  obtain ⟨a1, -, a3⟩ := aL_all tx L 0 (by omega) hc
  obtain ⟨-, b2, b3⟩ := sL_all i L 0 (-2) (by omega)
  rw [e, a1]
  obtain ⟨n, hn, rfl⟩ := nI_of (Int32.not_lt.mpr hi)
  unfold f_X1_at
  rw [if_neg (nI_pos hn)]
  by_cases q : n < L.length
  · rw [if_neg (nI_ge (by omega) (by omega)), if_neg (nI_ge (by omega) (by omega)), nI_clamp hn]
    have h3 := a3 n q
    rw [Nat.zero_add] at h3
    have hcn : L.getD n 0 < 128 := by
      rw [List.getD_eq_getElem?_getD, List.getElem?_eq_getElem q]
      exact hc _ (List.getElem_mem q)
    rw [h3, and_255 _ hcn]
    exact (b3 n q (congrArg nI (by omega))).symm
  · rw [if_pos (nI_le (by omega) hn)]
    exact (b2 (fun j hj z => by
      have := (nI_eq hn (by omega)).mp z
      omega)).symm
theorem neg_len (i : Int32) (L : List Nat) : (sL i (-2, 0) L).2 = (sL (-1) (-2, 0) L).2 := by
  have : ∀ (L : List Nat) (a b o : Int32), (sL i (a, o) L).2 = (sL (-1) (b, o) L).2 := fun L => by
    induction L with
    | nil => exact fun _ _ _ => rfl
    | cons c L ih => exact fun a b o => ih _ _ _
  exact this L _ _ _
/-! words -/
def wl (c : Nat → Nat) : Nat → List Nat
  | 0 => []
  | n + 1 => wl c n ++ (if c n = 0 then [] else [96 + c n])
theorem wl_cong {c d : Nat → Nat} : ∀ {n : Nat}, (∀ k, k < n → c k = d k) → wl c n = wl d n
  | 0, _ => rfl
  | n + 1, h => by rw [wl, wl, wl_cong (fun k hk => h k (by omega)), h n (by omega)]
theorem wl_in {c : Nat → Nat} : ∀ {n : Nat}, (∀ k, k < n → c k < 32) → ∀ x, x ∈ wl c n → x < 128
  | 0, _, x, hx => by simp [wl] at hx
  | n + 1, h, x, hx => by
    rw [wl] at hx
    rcases List.mem_append.mp hx with z | z
    · exact wl_in (fun k hk => h k (by omega)) x z
    · by_cases q : c n = 0
      · rw [if_pos q] at z
        simp at z
      · rw [if_neg q] at z
        have := h n (by omega)
        have : x = 96 + c n := by simpa using z
        omega
theorem wl_len (c : Nat → Nat) : ∀ n, (wl c n).length ≤ n
  | 0 => Nat.le_refl _
  | n + 1 => by
    have := wl_len c n
    rw [wl, List.length_append]
    by_cases q : c n = 0
    · rw [if_pos q]
      simp
      omega
    · rw [if_neg q]
      simp
      omega
theorem says_wl {w : Int32} {x : Int64} {c : Nat → Nat} (hc : ∀ n, n < 8 → ((x >>> ((sh7 n).toInt64 &&& 63)) &&& 31).toInt32 = nI (c n) ∧ c n < 32) (o f : Int32) : f_X12_saysWord o w f x = sL w (f, o) (wl c 8) := by
  have key : ∀ n, n ≤ 8 → L_X12_saysWord_3 o w f x n = sL w (f, o) (wl c n) := fun n => by
    induction n with
    | zero => exact fun _ => iter_z _ _
    | succ n ih =>
      intro hn
      obtain ⟨h1, h2⟩ := hc n (by omega)
      refine (iter_s _ _ n).trans ?_
      show G_X12_saysWord_3 o w f x n (L_X12_saysWord_3 o w f x n) = _
      rw [ih (by omega)]
      unfold G_X12_saysWord_3 J_X12_saysWord_19 S_X12_saysWord_28
      rw [h1, wl, ← sL_app]
      by_cases q : c n = 0
      · rw [q, if_pos (show nI 0 ≤ 0 by decide), if_pos rfl]
        rfl
      · rw [if_neg (nI_nle (by omega) (by omega)), if_neg q, show (96 : Int32) = nI 96 from rfl, nI_add]
        rfl
  unfold f_X12_saysWord
  rw [key 8 (Nat.le_refl _)]
theorem adds_wl {x : Int32} {c : Nat → Nat} (hc : ∀ n, n < 6 → ((x >>> (sh5 n &&& 31)) &&& 31) = nI (c n) ∧ c n < 32) (s : (Nat → Int32) × Int32) : f_X1_addName 2048 s.1 s.2 x = aL s (wl c 6) := by
  have key : ∀ n, n ≤ 6 → L_X1_addName_3 2048 s.1 s.2 x n = aL s (wl c n) := fun n => by
    induction n with
    | zero => exact fun _ => iter_z _ _
    | succ n ih =>
      intro hn
      obtain ⟨h1, h2⟩ := hc n (by omega)
      refine (iter_s _ _ n).trans ?_
      show G_X1_addName_3 2048 s.1 s.2 x n (L_X1_addName_3 2048 s.1 s.2 x n) = _
      rw [ih (by omega)]
      unfold G_X1_addName_3 J_X1_addName_15 S_X1_addName_25
      rw [h1, wl, ← aL_app]
      by_cases q : c n = 0
      · rw [q, if_pos (show nI 0 = 0 from rfl), if_pos rfl]
        rfl
      · rw [if_neg (nI_ne0 (by omega) (by omega)), if_neg q, show (97 : Int32) = nI 97 from rfl, nI_add, show (1 : Int32) = nI 1 from rfl, pk_sub (by omega), show 97 + c n - 1 = 96 + c n by omega]
        rfl
  unfold f_X1_addName
  rw [key 6 (Nat.le_refl _)]
def nmL (n : Nat) : List Nat := wl (ltr n) 6
theorem add_name {n : Nat} (hn : n < 2 ^ 31) (s : (Nat → Int32) × Int32) : f_X1_addName 2048 s.1 s.2 (nI n) = aL s (nmL n) := adds_wl (fun k hk => ⟨ltr_nI hn hk, ltr_lt n k⟩) s
theorem lshr {x : Int64} {s : Int64} (k : Nat) (hs : (s.toBitVec.smod 64).toNat = k) : (x >>> s).toInt = x.toInt >>> k := by
  rw [Int64.toInt, Int64.toBitVec_shiftRight]
  show (x.toBitVec.sshiftRight' (s.toBitVec.smod 64)).toInt = _
  rw [BitVec.sshiftRight', BitVec.toInt_sshiftRight, hs]
  rfl
theorem says_name {n : Nat} (hn : n < 2 ^ 30) (w o f : Int32) : f_X12_saysWord o w f (nI n).toInt64 = sL w (f, o) (nmL n) := by
  have hs : ∀ k, k < 8 → (((sh7 k).toInt64 &&& 63).toBitVec.smod 64).toNat = 35 - 5 * k := by decide +kernel
  have e1 : (nI n).toInt64 = lN n := nI_l (by omega)
  have hv : ∀ k, k < 8 → (((nI n).toInt64 >>> ((sh7 k).toInt64 &&& 63)) &&& 31).toInt32 = nI (n / 2 ^ (35 - 5 * k) % 32) := fun k hk => by
    have h1 : (lN n >>> ((sh7 k).toInt64 &&& 63)) = lN (n / 2 ^ (35 - 5 * k)) := by
      have hd : n / 2 ^ (35 - 5 * k) ≤ n := Nat.div_le_self _ _
      refine Int64.toInt_inj.mp ?_
      rw [lshr _ (hs k hk), pk_lT (by omega), pk_lT (by omega), Int.shiftRight_eq_div_pow]
      rfl
    have h2 : (lN (n / 2 ^ (35 - 5 * k)) &&& 31) = lN (n / 2 ^ (35 - 5 * k) % 32) := by
      apply Int64.toBitVec_inj.mp
      rw [Int64.toBitVec_and]
      apply BitVec.eq_of_toNat_eq
      rw [BitVec.toNat_and]
      have hd : n / 2 ^ (35 - 5 * k) ≤ n := Nat.div_le_self _ _
      show n / 2 ^ (35 - 5 * k) % 2 ^ 64 &&& 31 = n / 2 ^ (35 - 5 * k) % 32 % 2 ^ 64
      rw [Nat.mod_eq_of_lt (a := n / 2 ^ (35 - 5 * k)) (by omega), show (31 : Nat) = 2 ^ 5 - 1 from rfl, Nat.and_two_pow_sub_one_eq_mod]
      exact (Nat.mod_eq_of_lt (by omega)).symm
    rw [e1, h1, h2, lN_i]
  rw [says_wl (c := fun k => n / 2 ^ (35 - 5 * k) % 32) (fun k hk => ⟨hv k hk, Nat.mod_lt _ (by decide)⟩)]
  refine congrArg (sL w (f, o)) ?_
  have z0 : n / 2 ^ (35 - 5 * 0) % 32 = 0 := by
    simp only [Nat.reduceMul, Nat.reduceSub, Nat.reducePow]
    omega
  have z1 : n / 2 ^ (35 - 5 * 1) % 32 = 0 := by
    simp only [Nat.reduceMul, Nat.reduceSub, Nat.reducePow]
    omega
  unfold nmL
  show wl (fun k => n / 2 ^ (35 - 5 * k) % 32) (2 + 6) = _
  have key : ∀ m, m ≤ 6 → wl (fun k => n / 2 ^ (35 - 5 * k) % 32) (2 + m) = wl (ltr n) m := fun m => by
    induction m with
    | zero =>
      intro _
      show ([] ++ (if n / 2 ^ (35 - 5 * 0) % 32 = 0 then [] else _)) ++ (if n / 2 ^ (35 - 5 * 1) % 32 = 0 then [] else _) = []
      rw [if_pos z0, if_pos z1]
      rfl
    | succ m ih =>
      intro hm
      show wl (fun k => n / 2 ^ (35 - 5 * k) % 32) (2 + m) ++ (if n / 2 ^ (35 - 5 * (2 + m)) % 32 = 0 then [] else [96 + n / 2 ^ (35 - 5 * (2 + m)) % 32]) = wl (ltr n) m ++ (if ltr n m = 0 then [] else [96 + ltr n m])
      rw [ih (by omega)]
      have : n / 2 ^ (35 - 5 * (2 + m)) % 32 = ltr n m := by
        unfold ltr
        rw [show 35 - 5 * (2 + m) = 25 - 5 * m by omega]
      rw [this]
  exact key 6 (Nat.le_refl _)
theorem nmL_in (n : Nat) : ∀ x, x ∈ nmL n → x < 128 := wl_in (fun k _ => ltr_lt n k)
theorem nmL_len (n : Nat) : (nmL n).length ≤ 6 := wl_len _ _
/-- one of the class's texts -/
theorem add_text {x : Nat} {L : List Nat} (hl : strLen.getD x 0 = L.length) (hL : ∀ n, n < L.length → sCh x (nI n) = nI (L.getD n 0)) (s : (Nat → Int32) × Int32) : f_X1_addText 2048 s.1 s.2 x = aL s L := by
  have key : ∀ n, n ≤ L.length → L_X1_addText_2 2048 s.1 s.2 x n = aL s (L.take n) := fun n => by
    induction n with
    | zero => exact fun _ => iter_z _ _
    | succ n ih =>
      intro hn
      refine (iter_s _ _ n).trans ?_
      show G_X1_addText_2 2048 s.1 s.2 x n (L_X1_addText_2 2048 s.1 s.2 x n) = _
      rw [ih (by omega)]
      unfold G_X1_addText_2 S_X1_addText_16
      have ht : L.take (n + 1) = L.take n ++ [L.getD n 0] := by
        rw [List.take_add_one, List.getElem?_eq_getElem (by omega), List.getD_eq_getElem?_getD, List.getElem?_eq_getElem (by omega)]
        rfl
      rw [hL n (by omega), ht, ← aL_app]
      rfl
  unfold f_X1_addText
  rw [hl, key _ (Nat.le_refl _), List.take_length]
