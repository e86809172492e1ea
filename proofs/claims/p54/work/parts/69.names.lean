def ltr (n k : Nat) : Nat := n / 2 ^ (25 - 5 * k) % 32
theorem ltr_nI {n k : Nat} (hn : n < 2 ^ 31) (hk : k < 6) : ((nI n >>> (sh5 k &&& 31)) &&& 31) = nI (ltr n k) := by
  have e : ∀ k, k < 6 → ((sh5 k &&& 31).toBitVec.smod 32).toNat = 25 - 5 * k := by decide +kernel
  have hd : n / 2 ^ (25 - 5 * k) ≤ n := Nat.div_le_self _ _
  rw [pk_shrN hn _ _ (e k hk), pk_andN (by omega) 5 (by decide)]
  rfl
theorem ltr_lt (n k : Nat) : ltr n k < 32 := Nat.mod_lt _ (by decide)
/-- an unused group lies ahead -/
def ovr (n : Nat) : Nat → Bool
  | 0 => false
  | k + 1 => ovr n k || decide (ltr n k = 0)
def okL (n k : Nat) : Bool := decide (ltr n k < 27) && (decide (ltr n k = 0) || !ovr n k)
def allB (p : Nat → Bool) : Nat → Bool
  | 0 => true
  | n + 1 => allB p n && p n
theorem allB_t {p : Nat → Bool} : ∀ {n : Nat}, allB p n = true → ∀ k, k < n → p k = true
  | 0, _, k, hk => absurd hk (by omega)
  | n + 1, h, k, hk => by
    have h2 := (Bool.and_eq_true _ _).mp (show (allB p n && p n) = true from h)
    by_cases q : k = n
    · rw [q]
      exact h2.2
    · exact allB_t h2.1 k (by omega)
theorem ovr_in {n j : Nat} (hj : ltr n j = 0) : ∀ k, j < k → ovr n k = true
  | 0, h => absurd h (by omega)
  | k + 1, h => by
    show (ovr n k || decide (ltr n k = 0)) = true
    by_cases q : j = k
    · rw [← q, decide_eq_true hj, Bool.or_true]
    · rw [ovr_in hj k (by omega), Bool.true_or]
theorem x_ovr {n : Nat} (hn : n < 2 ^ 31) (hk : ∀ k, k < 6 → okL n k = true ∨ True) : ∀ k, k ≤ 6 → (∀ j, j < k → okL n j = true) → L_X7_isName_18 (nI n) k = b2i (ovr n k) := by
  intro k
  induction k with
  | zero => exact fun _ _ => iter_z _ _
  | succ k ih =>
    intro hk6 hall
    have h0 := ih (by omega) (fun j hj => hall j (by omega))
    have hok := hall k (by omega)
    have hl := ltr_lt n k
    have e : L_X7_isName_18 (nI n) (k + 1) = (fun sn : Int32 => (if 26 < (((nI n) >>> ((sh5 (k)) &&& 31)) &&& 31) then sn else (if (((nI n) >>> ((sh5 (k)) &&& 31)) &&& 31) = 0 then (if (((nI n) >>> ((sh5 (k)) &&& 31)) &&& 31) = 0 then 1 else sn) else (if sn = 0 then (if (((nI n) >>> ((sh5 (k)) &&& 31)) &&& 31) = 0 then 1 else sn) else sn)))) (L_X7_isName_18 (nI n) k) := iter_s _ _ k
    rw [e, h0]
    dsimp only
    rw [ltr_nI hn (by omega)]
    have h27 : ltr n k < 27 := by
      unfold okL at hok
      exact of_decide_eq_true ((Bool.and_eq_true _ _).mp hok).1
    rw [if_neg (show ¬ (26 : Int32) < nI (ltr n k) from nI_nlt (b := ltr n k) (a := 26) (by omega) (by omega) |> fun z => z)]
    show _ = b2i (ovr n k || decide (ltr n k = 0))
    by_cases q : ltr n k = 0
    · rw [q, decide_eq_true rfl, Bool.or_true, if_pos (show nI 0 = 0 from rfl), if_pos (show nI 0 = 0 from rfl)]
      rfl
    · have qn : ¬ nI (ltr n k) = 0 := nI_ne0 (by omega) (by omega)
      rw [if_neg qn, if_neg qn, decide_eq_false q, Bool.or_false]
      by_cases z : b2i (ovr n k) = 0
      · rw [if_pos z]
      · rw [if_neg z]
theorem x_E {n : Nat} (hn : n < 2 ^ 31) {k : Nat} (hk : k < 6) (hL : L_X7_isName_18 (nI n) k = b2i (ovr n k)) : E_X7_isName_18 (nI n) k = if okL n k = true then none else some false := by
  have hl := ltr_lt n k
  unfold E_X7_isName_18
  rw [ltr_nI hn hk, hL]
  unfold okL
  by_cases q : ltr n k < 27
  · rw [if_neg (show ¬ (26 : Int32) < nI (ltr n k) from nI_nlt (b := ltr n k) (a := 26) (by omega) (by omega) |> fun z => z), decide_eq_true q]
    by_cases q0 : ltr n k = 0
    · rw [q0, if_pos (show nI 0 = 0 from rfl), if_pos (show nI 0 = 0 from rfl), decide_eq_true rfl]
      rfl
    · have qn : ¬ nI (ltr n k) = 0 := nI_ne0 (by omega) (by omega)
      rw [if_neg qn, decide_eq_false q0, if_neg qn]
      cases ovr n k
      · rfl
      · rfl
  · rw [if_pos (show (26 : Int32) < nI (ltr n k) from nI_lt (a := 26) (by omega) (by omega)), decide_eq_false q]
    rfl
theorem x_fst {n : Nat} (hn : n < 2 ^ 31) : ∀ k, k ≤ 6 → fst_ (fun j => E_X7_isName_18 (nI n) j) k = if allB (okL n) k = true then none else some false := by
  intro k
  induction k with
  | zero =>
    intro _
    rw [fst_]
    rfl
  | succ k ih =>
    intro hk
    have h0 := ih (by omega)
    cases q : allB (okL n) k
    · rw [q, if_neg (by decide)] at h0
      have h1 := fst_keep h0 1
      rw [h1]
      have : allB (okL n) (k + 1) = false := by
        show (allB (okL n) k && okL n k) = false
        rw [q]
        rfl
      rw [this]
      rfl
    · rw [q, if_pos rfl] at h0
      have hE := x_E hn (k := k) (by omega) (x_ovr hn (fun _ _ => Or.inr trivial) k (by omega) (allB_t q))
      have e : allB (okL n) (k + 1) = okL n k := by
        show (allB (okL n) k && okL n k) = _
        rw [q]
        rfl
      rw [fst_, h0, e]
      exact hE
theorem m_isN {n : Nat} (hn : n < 2 ^ 31) (g : Bool) (hg : J_X12_isName_6 (nI n) = g) : ∀ k, k ≤ 6 → L_X12_isName_25 (nI n) k = (g && allB (okL n) k, ovr n k) := by
  intro k
  induction k with
  | zero =>
    intro _
    refine (iter_z _ _).trans ?_
    rw [hg]
    show (g, false) = (g && true, false)
    rw [Bool.and_true]
  | succ k ih =>
    intro hk
    have h0 := ih (by omega)
    have hl := ltr_lt n k
    refine (iter_s _ _ k).trans ?_
    show (J_X12_isName_38 (nI n) k (L_X12_isName_25 (nI n) k), J_X12_isName_64 (nI n) k (L_X12_isName_25 (nI n) k)) = _
    rw [h0]
    unfold J_X12_isName_38 J_X12_isName_64
    rw [ltr_nI hn (by omega)]
    show (bif (g && allB (okL n) k) then (if (27 : Int32) ≤ nI (ltr n k) then false else bif ovr n k then (if 0 < nI (ltr n k) then false else true) else true) else false, bif ovr n k then true else if nI (ltr n k) = 0 then true else false) = (g && (allB (okL n) k && okL n k), ovr n k || decide (ltr n k = 0))
    have e0 : (if nI (ltr n k) = 0 then true else false) = decide (ltr n k = 0) := by
      by_cases q : ltr n k = 0
      · rw [q, if_pos (show nI 0 = 0 from rfl)]
        rfl
      · rw [if_neg (nI_ne0 (by omega) (by omega)), decide_eq_false q]
    have e1 : (if 0 < nI (ltr n k) then false else true) = decide (ltr n k = 0) := by
      by_cases q : ltr n k = 0
      · rw [q, if_neg (by decide)]
        rfl
      · rw [if_pos (show (0 : Int32) < nI (ltr n k) from nI_lt (a := 0) (by omega) (by omega)), decide_eq_false q]
    have e2 : ∀ z : Bool, (if (27 : Int32) ≤ nI (ltr n k) then false else z) = (decide (ltr n k < 27) && z) := fun z => by
      by_cases q : ltr n k < 27
      · rw [if_neg (show ¬ (27 : Int32) ≤ nI (ltr n k) from nI_ge (b := 27) q (by omega)), decide_eq_true q]
        rfl
      · rw [if_pos (show (27 : Int32) ≤ nI (ltr n k) from nI_le (a := 27) (by omega) (by omega)), decide_eq_false q]
        rfl
    have e3 : okL n k = (decide (ltr n k < 27) && (decide (ltr n k = 0) || !ovr n k)) := rfl
    rw [e0, e1, e2, e3]
    cases g <;> cases allB (okL n) k <;> cases decide (ltr n k < 27) <;> cases ovr n k <;> cases decide (ltr n k = 0) <;> rfl
theorem eq_isName (x : Int32) : f_X7_isName x = f_X12_isName x := by
  unfold f_X7_isName f_X12_isName
  have h30 : ∀ n, n < 2 ^ 31 → (nI n >>> ((30 : Int32) &&& 31)) = nI (n / 2 ^ 30) := fun n hn => pk_shrN hn _ 30 (by decide)
  have h25 : ∀ n, n < 2 ^ 31 → (nI n >>> ((25 : Int32) &&& 31)) = nI (n / 2 ^ 25) := fun n hn => pk_shrN hn _ 25 (by decide)
  by_cases q : x < 0
  · rw [if_pos (Int32.le_iff_toInt_le.mpr (by have := Int32.lt_iff_toInt_lt.mp q; omega))]
    have hneg : (x >>> ((25 : Int32) &&& 31)) ≤ 0 := by
      rw [Int32.le_iff_toInt_le, pk_shr x _ 25 (by decide), Int.shiftRight_eq_div_pow]
      have h1 := Int32.lt_iff_toInt_lt.mp q
      have h2 : (0 : Int32).toInt = 0 := rfl
      rw [h2] at h1 ⊢
      have h3 : x.toInt / ((2 ^ 25 : Nat) : Int) < 0 := Int.ediv_neg_of_neg_of_pos h1 (by decide)
      omega
    have hg : J_X12_isName_6 x = false := by
      unfold J_X12_isName_6
      rw [if_pos hneg]
    have hz : ∀ k, (L_X12_isName_25 x k).1 = false := by
      intro k
      induction k with
      | zero =>
        refine (congrArg Prod.fst (iter_z _ _)).trans ?_
        exact hg
      | succ k ih =>
        refine (congrArg Prod.fst (iter_s _ _ k)).trans ?_
        show J_X12_isName_38 x k (L_X12_isName_25 x k) = false
        unfold J_X12_isName_38
        rw [ih]
        rfl
    exact (hz 6).symm
  obtain ⟨n, hn, rfl⟩ := nI_of q
  rw [m_isN hn _ rfl 6 (Nat.le_refl _), h30 n hn]
  by_cases q0 : n = 0
  · subst q0
    rw [if_pos (by decide)]
    have hg : J_X12_isName_6 (nI 0) = false := by decide
    rw [hg]
    rfl
  rw [if_neg (nI_nle (by omega) hn)]
  unfold J_X12_isName_6
  rw [h30 n hn, h25 n hn]
  by_cases q1 : n < 2 ^ 30
  · have e0 : n / 2 ^ 30 = 0 := by omega
    rw [e0, if_pos (show nI 0 = 0 from rfl), x_fst hn 6 (Nat.le_refl _), if_pos (show nI 0 = 0 from rfl)]
    by_cases q2 : n / 2 ^ 25 = 0
    · rw [q2, if_pos (show nI 0 ≤ 0 by decide)]
      show _ = (false && allB (okL n) 6)
      rw [Bool.false_and]
      cases w : allB (okL n) 6
      · rfl
      · have hk := allB_t w
        have hl0 : ltr n 0 = 0 := by
          unfold ltr
          rw [show 25 - 5 * 0 = 25 from rfl, q2]
        have hz : ∀ k, 0 < k → k < 6 → ltr n k = 0 := fun k h1 h2 => by
          have h3 := hk k h2
          unfold okL at h3
          rw [ovr_in hl0 k h1, Bool.not_true, Bool.or_false] at h3
          exact of_decide_eq_true ((Bool.and_eq_true _ _).mp h3).2
        have z1 := hz 1 (by decide) (by decide)
        have z2 := hz 2 (by decide) (by decide)
        have z3 := hz 3 (by decide) (by decide)
        have z4 := hz 4 (by decide) (by decide)
        have z5 := hz 5 (by decide) (by decide)
        unfold ltr at z1 z2 z3 z4 z5
        simp only [Nat.reduceMul, Nat.reduceSub, Nat.reducePow] at z1 z2 z3 z4 z5 q2
        exact absurd (show n = 0 by omega) q0
    · rw [if_neg (nI_nle (by omega) (by omega))]
      show _ = (true && allB (okL n) 6)
      rw [Bool.true_and]
      cases allB (okL n) 6
      · rfl
      · rfl
  · have e1 : ¬ nI (n / 2 ^ 30) = 0 := nI_ne0 (by omega) (by omega)
    rw [if_neg e1, if_neg e1]
    by_cases q2 : nI (n / 2 ^ 25) ≤ 0
    · rw [if_pos q2]
      rfl
    · rw [if_neg q2]
      rfl
theorem fst_cong {R : Type} {b c : Nat → Option R} : ∀ {n : Nat}, (∀ j, j < n → b j = c j) → fst_ b n = fst_ c n
  | 0, _ => by rw [fst_, fst_]
  | n + 1, h => by rw [fst_, fst_, fst_cong (fun j hj => h j (by omega)), h n (by omega)]
section NM
variable {nums bNames pNames fBoats : Nat → Int32} {nB nP mPpl mBts : Int32} {mNum mNam mFst mBnm : Nat → Int32}
variable {P B Q : Nat}
theorem eq_named (hs : RSu P B Q nums bNames pNames fBoats nB nP mPpl mBts mNum mNam mFst mBnm) (x : Int32) (bt : Bool) : f_X11_named bNames pNames nB nP x bt = bif bt then f_X12_named_T mBts mBnm x else f_X12_named_F mPpl mNam x := by
  obtain ⟨h1, h2, h3, h4, ⟨-, hP⟩, hB, -, -, -, -, -, -, -, -, h5, h6⟩ := hs
  unfold f_X11_named f_X12_named_T f_X12_named_F
  rw [eq_isName]
  cases c : f_X12_isName x
  · cases bt
    · exact (rfl : (-1 : Int32) = -1)
    · exact (rfl : (-1 : Int32) = -1)
  · cases bt
    · show f_X7_find 20 pNames nP x = (fst_ _ mPpl.toNatClampNeg).getD (-2)
      unfold f_X7_find
      rw [h1, h2, nI_clamp (by omega), Nat.min_eq_left hP]
      refine congrArg (fun o => Option.getD o (-2)) (fst_cong (fun j hj => ?_))
      unfold E_X7_find_2 E_X12_named_F_11
      rw [nI_clamp (by omega), (h5 j hj).1]
    · show f_X7_find 6 bNames nB x = (fst_ _ mBts.toNatClampNeg).getD (-2)
      unfold f_X7_find
      rw [h3, h4, nI_clamp (by omega), Nat.min_eq_left hB]
      refine congrArg (fun o => Option.getD o (-2)) (fst_cong (fun j hj => ?_))
      unfold E_X7_find_2 E_X12_named_T_11
      rw [nI_clamp (by omega), (h6 j hj).1]
end NM
