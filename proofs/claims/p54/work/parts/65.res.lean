/-! the result: both sides find the same. c: where the sticks lie, 4 for nowhere -/
def bk (k : Nat) : Int32 := if k < 4 then nI k else -2
def cnt (c : Nat → Nat) (b : Nat) : Nat := cntB (fun o => decide (c o = b)) 20
/-- the greatest count of the first n baskets, and the sum of their counts -/
def mxN (c : Nat → Nat) : Nat → Nat
  | 0 => 0
  | n + 1 => max (mxN c n) (cnt c n)
def smN (c : Nat → Nat) : Nat → Nat
  | 0 => 0
  | n + 1 => smN c n + cnt c n
def RES (c : Nat → Nat) (need : Int32) : Int32 :=
  if nI (smN c 4) < need then -2 else if smN c 4 = 0 then -2 else bk (c (wh_ (fun o => decide (c o < 4 ∧ cnt c (c o) = mxN c 4)) 19))
theorem cnt_le (c : Nat → Nat) (b : Nat) : cnt c b ≤ 20 := cntB_le _ _
theorem mxN_le (c : Nat → Nat) : ∀ n, mxN c n ≤ 20
  | 0 => Nat.zero_le _
  | n + 1 => by
    have h1 := mxN_le c n
    have h2 := cnt_le c n
    show max (mxN c n) (cnt c n) ≤ 20
    omega
theorem smN_le (c : Nat → Nat) : ∀ n, smN c n ≤ 20 * n
  | 0 => Nat.zero_le _
  | n + 1 => by
    have h1 := smN_le c n
    have h2 := cnt_le c n
    show smN c n + cnt c n ≤ _
    omega
theorem cnt_mx (c : Nat → Nat) : ∀ n b, b < n → cnt c b ≤ mxN c n
  | 0, b, h => absurd h (by omega)
  | n + 1, b, h => by
    show _ ≤ max (mxN c n) (cnt c n)
    by_cases q : b = n
    · subst q
      omega
    · have := cnt_mx c n b (by omega)
      omega
theorem cnt_sm (c : Nat → Nat) : ∀ n b, b < n → cnt c b ≤ smN c n
  | 0, b, h => absurd h (by omega)
  | n + 1, b, h => by
    show _ ≤ smN c n + cnt c n
    by_cases q : b = n
    · subst q
      omega
    · have := cnt_sm c n b (by omega)
      omega
theorem mx_is (c : Nat → Nat) : ∀ n, 0 < mxN c n → ∃ b, b < n ∧ cnt c b = mxN c n
  | 0, h => absurd h (Nat.lt_irrefl 0)
  | n + 1, h => by
    have e : mxN c (n + 1) = max (mxN c n) (cnt c n) := rfl
    by_cases q : mxN c n ≤ cnt c n
    · exact ⟨n, by omega, by omega⟩
    · obtain ⟨b, h1, h2⟩ := mx_is c n (by omega)
      exact ⟨b, by omega, by omega⟩
theorem cntB_some {p : Nat → Bool} : ∀ {n : Nat}, 0 < cntB p n → ∃ k, k < n ∧ p k = true
  | 0, h => absurd h (Nat.lt_irrefl 0)
  | n + 1, h => by
    cases q : p n
    · rw [cntB, q] at h
      obtain ⟨k, h1, h2⟩ := cntB_some (n := n) h
      exact ⟨k, by omega, h2⟩
    · exact ⟨n, by omega, q⟩
theorem cntB_one {p : Nat → Bool} {k : Nat} (hk : p k = true) : ∀ {n : Nat}, k < n → 0 < cntB p n
  | 0, h => absurd h (by omega)
  | n + 1, h => by
    rw [cntB]
    by_cases q : k = n
    · subst q
      rw [hk]
      show 0 < _ + 1
      omega
    · have := cntB_one hk (n := n) (by omega)
      omega
theorem cnt_pos {c : Nat → Nat} {o : Nat} (ho : o < 20) : 0 < cnt c (c o) := cntB_one (decide_eq_true rfl) ho
theorem sm_mx (c : Nat → Nat) : ∀ n, mxN c n = 0 → smN c n = 0
  | 0, _ => rfl
  | n + 1, h => by
    have e : mxN c (n + 1) = max (mxN c n) (cnt c n) := rfl
    have := sm_mx c n (by omega)
    show smN c n + cnt c n = 0
    omega
theorem mx_sm (c : Nat → Nat) : ∀ n, mxN c n ≤ smN c n
  | 0 => Nat.le_refl _
  | n + 1 => by
    have := mx_sm c n
    show max (mxN c n) (cnt c n) ≤ smN c n + cnt c n
    omega
/-- somebody's stick lies in a basket with the greatest count -/
theorem res_some {c : Nat → Nat} (h : ¬ smN c 4 = 0) : ∃ k, k ≤ 19 ∧ c k < 4 ∧ cnt c (c k) = mxN c 4 := by
  have h1 : 0 < mxN c 4 := by
    rcases Nat.eq_zero_or_pos (mxN c 4) with q | q
    · exact absurd (sm_mx c 4 q) h
    · exact q
  obtain ⟨b, h2, h3⟩ := mx_is c 4 h1
  obtain ⟨k, h4, h5⟩ := cntB_some (show 0 < cnt c b by omega)
  have h6 : c k = b := of_decide_eq_true h5
  exact ⟨k, by omega, by omega, by rw [h6, h3]⟩
theorem wh_cong : ∀ {b : Nat} {P Q : Nat → Bool}, (∀ k, k ≤ b → P k = Q k) → wh_ P b = wh_ Q b
  | 0, _, _, _ => by rw [wh_, wh_]
  | b + 1, P, Q, h => by rw [wh_, wh_, h 0 (by omega), wh_cong (fun k hk => h (k + 1) (by omega))]
theorem fst_no {R : Type} {b : Nat → Option R} : ∀ {n : Nat}, (∀ j, j < n → b j = none) → fst_ b n = none
  | 0, _ => by rw [fst_]
  | n + 1, h => fst_n (fst_no (fun j hj => h j (by omega))) (h n (by omega))
theorem fst_wh {R : Type} {P : Nat → Bool} {f : Nat → R} {b : Nat → Option R} {n : Nat} (hb : ∀ k, k < n + 1 → b k = if P k = true then some (f k) else none) (h : ∃ k, k ≤ n ∧ P k = true) : fst_ b (n + 1) = some (f (wh_ P n)) := by
  have h1 := wh_yes n P h
  have h2 := wh_le (b := n) (P := P)
  refine fst_s (n := wh_ P n) (fst_no (fun j hj => ?_)) ?_ (by omega)
  · rw [hb j (by omega), if_neg (by rw [wh_no n P j hj]; decide)]
  · rw [hb _ (by omega), if_pos h1]
/-! the class's way -/
theorem bk_in {k : Nat} (h : k < 4) : bk k = nI k := if_pos h
theorem bk_no {k : Nat} (h : ¬ k < 4) : bk k = -2 := if_neg h
theorem isB_bk (k : Nat) : f_X11_isBasket (bk k) = decide (k < 4) := by
  unfold f_X11_isBasket bk
  by_cases h : k < 4
  · rw [if_pos h, decide_eq_true h]
    exact (isIn_eq (n := 4) (by decide)).mpr (vp_in_nI h (by decide))
  · rw [if_neg h, decide_eq_false h]
    decide
theorem cell_bk {f : Nat → Int32} (k : Nat) : f_X11_cell 4 f (bk k) 0 = if k < 4 then f k else 0 := by
  by_cases h : k < 4
  · rw [if_pos h, bk_in h]
    exact cell_nI (by decide) h
  · rw [if_neg h, bk_no h]
    rfl
theorem x_count {c : Nat → Nat} {blB : Nat → Int32} (hb : ∀ o, o < 20 → blB o = bk (c o)) (blC : Nat → Int32) : ∀ n, n ≤ 20 → (L_X0_countAll_12 blB blC n).1 = nI (cntB (fun o => decide (c o < 4)) n) ∧ ∀ b, b < 4 → (L_X0_countAll_12 blB blC n).2 b = nI (cntB (fun o => decide (c o = b)) n) := by
  refine iter_inv (fun n (s : Int32 × (Nat → Int32)) => s.1 = nI (cntB (fun o => decide (c o < 4)) n) ∧ ∀ b, b < 4 → s.2 b = nI (cntB (fun o => decide (c o = b)) n)) ⟨rfl, fun b hb2 => ?_⟩ (fun n s hn h => ?_)
  · have e : f_X11_fillRow 4 blC 0 = fun j => if j < 4 then 0 else blC j := iter_row (N := 4) (g := fun _ _ => 0) (fun n t hn => by rw [nI_clamp (by omega)]) blC 4 (Nat.le_refl _)
    show f_X11_fillRow 4 blC 0 b = _
    rw [e]
    exact if_pos hb2
  · obtain ⟨h1, h2⟩ := h
    rw [nI_clamp (by omega), hb n hn, isB_bk]
    by_cases q : c n < 4
    · rw [decide_eq_true q]
      refine ⟨?_, fun b hb2 => ?_⟩
      · show s.1 + 1 = _
        rw [h1, cntB, decide_eq_true q, nI_1]
        rfl
      · show f_X11_setCell 4 s.2 (bk (c n)) (f_X11_cell 4 s.2 (bk (c n)) 0 + 1) b = _
        rw [cell_bk, if_pos q, bk_in q, setCell_nI (by decide) q, cntB]
        by_cases e : b = c n
        · subst e
          rw [upd_eq, h2 _ hb2, decide_eq_true rfl, nI_1]
          rfl
        · rw [upd_ne e, h2 _ hb2, decide_eq_false (fun z => e z.symm)]
          rfl
    · rw [decide_eq_false q]
      refine ⟨?_, fun b hb2 => ?_⟩
      · show s.1 = _
        rw [h1, cntB, decide_eq_false q]
        rfl
      · show s.2 b = _
        rw [h2 _ hb2, cntB, decide_eq_false (show ¬ c n = b by omega)]
        rfl
theorem cnt_tot (c : Nat → Nat) : ∀ n, cntB (fun o => decide (c o < 4)) n = cntB (fun o => decide (c o = 0)) n + cntB (fun o => decide (c o = 1)) n + cntB (fun o => decide (c o = 2)) n + cntB (fun o => decide (c o = 3)) n
  | 0 => rfl
  | n + 1 => by
    rw [cntB, cntB, cntB, cntB, cntB, cnt_tot c n]
    by_cases q : c n < 4
    · rw [decide_eq_true q]
      rcases (show c n = 0 ∨ c n = 1 ∨ c n = 2 ∨ c n = 3 by omega) with e | e | e | e
      · simp [e]; omega
      · simp [e]; omega
      · simp [e]; omega
      · simp [e]; omega
    · rw [decide_eq_false q, decide_eq_false (show ¬ c n = 0 by omega), decide_eq_false (show ¬ c n = 1 by omega), decide_eq_false (show ¬ c n = 2 by omega), decide_eq_false (show ¬ c n = 3 by omega)]
      rfl
theorem sm_tot (c : Nat → Nat) : cntB (fun o => decide (c o < 4)) 20 = smN c 4 := by
  rw [cnt_tot]
  show _ = 0 + cnt c 0 + cnt c 1 + cnt c 2 + cnt c 3
  unfold cnt
  omega
theorem nI_max {a b : Nat} (ha : a < 2 ^ 31) (hb : b < 2 ^ 31) : (if nI a < nI b then nI b else nI a) = nI (max a b) := by
  by_cases q : a < b
  · rw [if_pos ((nI_ltI ha hb).mpr q), Nat.max_eq_right (by omega)]
  · rw [if_neg (fun z => q ((nI_ltI ha hb).mp z)), Nat.max_eq_left (by omega)]
theorem x_most {c : Nat → Nat} {blB blC : Nat → Int32} (h : ∀ b, b < 4 → (f_X0_countAll blB blC).2 b = nI (cnt c b)) : ∀ n, n ≤ 4 → L_X0_result_15 blB blC n = nI (max 1 (mxN c n)) := by
  refine iter_inv (fun n (s : Int32) => s = nI (max 1 (mxN c n))) rfl (fun n s hn hs => ?_)
  have h1 := cnt_le c n
  have h2 := mxN_le c n
  rw [nI_clamp (by omega), h n hn, hs, nI_max (by omega) (by omega)]
  show nI (max (max 1 (mxN c n)) (cnt c n)) = nI (max 1 (max (mxN c n) (cnt c n)))
  rw [show max (max 1 (mxN c n)) (cnt c n) = max 1 (max (mxN c n) (cnt c n)) by omega]
theorem x_result {c : Nat → Nat} {blB : Nat → Int32} (hb : ∀ o, o < 20 → blB o = bk (c o)) (blC : Nat → Int32) (need : Int32) : (f_X0_result blB blC need).1 = RES c need := by
  obtain ⟨h1, h2⟩ := x_count hb blC 20 (Nat.le_refl _)
  have h1' : (f_X0_countAll blB blC).1 = nI (smN c 4) := h1.trans (congrArg nI (sm_tot c))
  have h2' : ∀ b, b < 4 → (f_X0_countAll blB blC).2 b = nI (cnt c b) := h2
  have h3 := x_most h2' 4 (Nat.le_refl _)
  have hl := mxN_le c 4
  unfold f_X0_result RES
  rw [h1']
  by_cases q : nI (smN c 4) < need
  · rw [if_neg (Int32.not_le.mpr q), if_pos q]
  rw [if_pos (Int32.not_lt.mp q), if_neg q]
  have hE : ∀ k, k < 20 → E_X0_result_43 blB blC k = if (decide (c k < 4 ∧ cnt c (c k) = max 1 (mxN c 4))) = true then some (bk (c k), (f_X0_countAll blB blC).2) else none := by
    intro k hk
    unfold E_X0_result_43
    rw [nI_clamp (by omega), hb k hk, cell_bk, h3]
    by_cases z : c k < 4
    · rw [if_pos z, h2' _ z]
      have := cnt_le c (c k)
      by_cases y : cnt c (c k) = max 1 (mxN c 4)
      · rw [if_pos (by rw [y]), if_pos (decide_eq_true ⟨z, y⟩)]
      · rw [if_neg (fun w => y ((nI_eq (by omega) (by omega)).mp w)), if_neg (fun w => y (of_decide_eq_true w).2)]
    · rw [if_neg z, if_neg (show ¬ (0 : Int32) = nI (max 1 (mxN c 4)) from fun w => absurd ((nI_eq (a := 0) (b := max 1 (mxN c 4)) (by omega) (by omega)).mp w) (by omega)), if_neg (fun w => z (of_decide_eq_true w).1)]
  by_cases q0 : smN c 4 = 0
  · rw [if_pos q0, fst_no (fun j hj => ?_)]
    · rfl
    · have hm := mx_sm c 4
      rw [hE j hj, if_neg (fun w => ?_)]
      obtain ⟨w1, w2⟩ := of_decide_eq_true w
      have := cnt_sm c 4 (c j) w1
      omega
  · rw [if_neg q0]
    obtain ⟨k, k1, k2, k3⟩ := res_some q0
    have hp := cnt_pos (c := c) (show k < 20 by omega)
    have hmx : max 1 (mxN c 4) = mxN c 4 := by omega
    rw [hmx] at hE
    rw [fst_wh (n := 19) (f := fun k => (bk (c k), (f_X0_countAll blB blC).2)) (P := fun o => decide (c o < 4 ∧ cnt c (c o) = mxN c 4)) (fun j hj => hE j hj) ⟨k, k1, decide_eq_true ⟨k2, k3⟩⟩]
    rfl
/-! the reference's way -/
theorem bit_nI {x k : Nat} (hx : x < 2 ^ 31) (hk : k < 31) : ((nI x >>> (nI k &&& 31)) &&& 1) = if x.testBit k = true then 1 else 0 := by
  have e1 : nI k &&& 31 = nI k := by
    rw [pk_andN (by omega) 5 (by decide), Nat.mod_eq_of_lt (by omega)]
  have e2 : ∀ k, k < 31 → ((nI k).toBitVec.smod 32).toNat = k := by decide +kernel
  have hd : x / 2 ^ k ≤ x := Nat.div_le_self _ _
  rw [e1, pk_shrN hx _ k (e2 k hk), pk_andN (by omega) 1 (by decide), Nat.testBit_eq_decide_div_mod_eq]
  rcases (show x / 2 ^ k % 2 ^ 1 = 0 ∨ x / 2 ^ k % 2 ^ 1 = 1 by omega) with q | q
  · rw [q, if_neg (by
      intro z
      have := of_decide_eq_true z
      omega)]
    rfl
  · rw [q, if_pos (decide_eq_true (by omega))]
    rfl
theorem mskB_bit20 (p : Nat → Bool) {k : Nat} (hk : k < 20) : (mskB p 20).testBit k = p k := by
  rw [mskB_bit, decide_eq_true hk]
  rfl
theorem m_result {c : Nat → Nat} {mPpl : Int32} {mW : Nat → Int32} {wo more into : Int32} (hS : ∀ n, n < 4 → ((f_X12_setIn mPpl mW (nI n)) &&& (wo ^^^ (-1))) ||| (J_X12_resultOf_32 more into n) = nI (mskB (fun o => decide (c o = n)) 20))
    (hf : ∀ o, o < 20 → c o < 4 → (if ((more >>> ((nI o) &&& 31)) &&& 1) = 1 then into else f_X12_of mW (nI o) 8) = nI (c o)) (need : Int32) : f_X12_resultOf mPpl mW need wo more into = RES c need := by
  have hI : ∀ n, n ≤ 4 → L_X12_resultOf_12 mPpl mW wo more into n = (nI (mskB (fun o => decide (c o < n) && decide (cnt c (c o) = mxN c n)) 20), nI (mxN c n), nI (smN c n)) := by
    refine iter_inv (fun n (s : Int32 × Int32 × Int32) => s = (nI (mskB (fun o => decide (c o < n) && decide (cnt c (c o) = mxN c n)) 20), nI (mxN c n), nI (smN c n))) ?_ (fun n s hn hs => ?_)
    · have e : mskB (fun o => decide (c o < 0) && decide (cnt c (c o) = mxN c 0)) 20 = mskB (fun _ => false) 20 := mskB_cong (fun o _ => by rw [decide_eq_false (by omega)]; rfl)
      rw [e]
      rfl
    · have hc := cnt_le c n
      have hm := mxN_le c n
      have ho : f_X12_ones (nI (mskB (fun o => decide (c o = n)) 20)) = nI (cnt c n) := ones_msk _ (by decide)
      have hmax : mxN c (n + 1) = max (mxN c n) (cnt c n) := rfl
      rw [hs]
      dsimp only
      unfold J_X12_resultOf_61 J_X12_resultOf_92
      rw [hS n hn, ho]
      dsimp only
      have hle : (nI (cnt c n) ≤ nI (mxN c n)) ↔ cnt c n ≤ mxN c n := nI_leI (by omega) (by omega)
      have heq : (nI (cnt c n) = nI (mxN c n)) ↔ cnt c n = mxN c n := nI_eq (by omega) (by omega)
      have hsm : nI (smN c n) + nI (cnt c n) = nI (smN c (n + 1)) := nI_add _ _
      rw [hsm]
      by_cases q : cnt c n ≤ mxN c n
      · have e2 : mxN c (n + 1) = mxN c n := by omega
        rw [if_pos (hle.mpr q), if_pos (hle.mpr q), e2]
        by_cases z : cnt c n = mxN c n
        · rw [if_pos (heq.mpr z), or_nI, mskB_or2]
          have e3 : mskB (fun i => decide (c i < n) && decide (cnt c (c i) = mxN c n) || decide (c i = n)) 20 = mskB (fun o => decide (c o < n + 1) && decide (cnt c (c o) = mxN c n)) 20 := mskB_cong (fun o _ => by
            by_cases y : c o = n
            · rw [y, decide_eq_true z, decide_eq_true (show n < n + 1 by omega), decide_eq_true rfl, Bool.or_true]
              rfl
            · rw [decide_eq_false y, Bool.or_false, show decide (c o < n) = decide (c o < n + 1) from decide_eq_decide.mpr (by omega)])
          rw [e3]
        · rw [if_neg (fun y => z (heq.mp y))]
          have e3 : mskB (fun o => decide (c o < n) && decide (cnt c (c o) = mxN c n)) 20 = mskB (fun o => decide (c o < n + 1) && decide (cnt c (c o) = mxN c n)) 20 := mskB_cong (fun o _ => by
            by_cases y : c o = n
            · rw [y, decide_eq_false z, Bool.and_false, Bool.and_false]
            · rw [show decide (c o < n) = decide (c o < n + 1) from decide_eq_decide.mpr (by omega)])
          rw [e3]
      · have e2 : mxN c (n + 1) = cnt c n := by omega
        rw [if_neg (fun y => q (hle.mp y)), if_neg (fun y => q (hle.mp y)), e2]
        have e3 : mskB (fun o => decide (c o = n)) 20 = mskB (fun o => decide (c o < n + 1) && decide (cnt c (c o) = cnt c n)) 20 := mskB_cong (fun o _ => by
          by_cases y : c o = n
          · rw [y, decide_eq_true rfl, decide_eq_true (show n < n + 1 by omega), decide_eq_true rfl]
            rfl
          · rw [decide_eq_false y]
            by_cases w : c o < n
            · have := cnt_mx c n (c o) w
              rw [decide_eq_false (show ¬ cnt c (c o) = cnt c n by omega), Bool.and_false]
            · rw [decide_eq_false (show ¬ c o < n + 1 by omega)]
              rfl)
        rw [e3]
  unfold f_X12_resultOf RES
  rw [hI 4 (Nat.le_refl _)]
  dsimp only
  have hsl := smN_le c 4
  by_cases q : nI (smN c 4) < need
  · rw [if_pos q, if_pos q]
  rw [if_neg q, if_neg q]
  by_cases q0 : smN c 4 = 0
  · rw [if_pos (by rw [q0]; rfl), if_pos q0]
  rw [if_neg (show ¬ nI (smN c 4) = 0 from fun z => q0 ((nI_eq (a := smN c 4) (b := 0) (by omega) (by omega)).mp z)), if_neg q0]
  have hw : wh_ (fun k => decide (¬ (((nI (mskB (fun o => decide (c o < 4) && decide (cnt c (c o) = mxN c 4)) 20)) >>> ((nI k) &&& 31)) &&& 1) = 0)) 19 = wh_ (fun o => decide (c o < 4 ∧ cnt c (c o) = mxN c 4)) 19 := wh_cong (fun k hk => by
    rw [bit_nI (Nat.lt_of_lt_of_le (mskB_lt _ 20) (by decide)) (by omega), mskB_bit20 _ (by omega)]
    by_cases z1 : c k < 4
    · by_cases z2 : cnt c (c k) = mxN c 4
      · simp [z1, z2]
      · simp [z1, z2]
    · simp [z1])
  rw [hw]
  obtain ⟨k, k1, k2, k3⟩ := res_some q0
  have hy := wh_yes 19 (fun o => decide (c o < 4 ∧ cnt c (c o) = mxN c 4)) ⟨k, k1, decide_eq_true ⟨k2, k3⟩⟩
  have hle := wh_le (b := 19) (P := fun o => decide (c o < 4 ∧ cnt c (c o) = mxN c 4))
  generalize wh_ (fun o => decide (c o < 4 ∧ cnt c (c o) = mxN c 4)) 19 = e at hy hle
  have hy2 := (of_decide_eq_true hy).1
  rw [bk_in hy2]
  exact hf e (by omega) hy2
