/-! small laws that the walks use -/
theorem lset_self {w : va_W} {k : Nat} {x : Nat × va_E} (h : w[k]? = some x) : w = w.set k x := by
  apply List.ext_getElem?
  intro i
  by_cases e : i = k
  · subst e
    rw [List.getElem?_set_self (List.getElem?_eq_some_iff.mp h).1, h]
  · rw [List.getElem?_set_ne (fun q => e q.symm)]
theorem lset_at {w w' : va_W} {k : Nat} {x y : Nat × va_E} (h : w[k]? = some x) (hw : w' = w.set k y) : w'[k]? = some y := by
  rw [hw, List.getElem?_set_self (List.getElem?_eq_some_iff.mp h).1]
theorem lset_ne {w w' : va_W} {k j : Nat} {x y : Nat × va_E} (h : w[j]? = some x) (hw : w' = w.set k y) (hd : j ≠ k) : w'[j]? = some x := by
  rw [hw, List.getElem?_set_ne (fun q => hd q.symm), h]
theorem cd_t {α : Sort _} {b : Bool} {x y : α} (h : b = true) : (bif b then x else y) = x := by rw [h]; rfl
theorem cd_f {α : Sort _} {b : Bool} {x y : α} (h : b = false) : (bif b then x else y) = y := by rw [h]; rfl
theorem gd_n {α : Type _} {o : Option α} {a : α} (h : o = none) : o.getD a = a := by rw [h]; rfl
theorem gd_s {α : Type _} {o : Option α} {a r : α} (h : o = some r) : o.getD a = r := by rw [h]; rfl
def fst_ {R : Type} (b : Nat → Option R) : Nat → Option R
  | 0 => none
  | n + 1 => (fst_ b n).orElse (fun _ => b n)
theorem fst_n {R : Type} {b : Nat → Option R} {n : Nat} (h : fst_ b n = none) (h1 : b n = none) : fst_ b (n + 1) = none := by
  rw [fst_, h, h1]; rfl
theorem fst_keep {R : Type} {b : Nat → Option R} {n : Nat} {r : R} (h : fst_ b n = some r) : ∀ j, fst_ b (n + j) = some r
  | 0 => h
  | j + 1 => by rw [← Nat.add_assoc, fst_, fst_keep h j]; rfl
theorem fst_s {R : Type} {b : Nat → Option R} {n N : Nat} {r : R} (h : fst_ b n = none) (h1 : b n = some r) (hn : n < N) : fst_ b N = some r := by
  have h2 : fst_ b (n + 1) = some r := by rw [fst_, h, h1]; rfl
  have h3 := fst_keep h2 (N - (n + 1))
  rwa [show n + 1 + (N - (n + 1)) = N by omega] at h3
theorem nI_toNat_lt (B : Int32) : B.toNatClampNeg < 2 ^ 31 := by
  have h := B.toInt_lt
  show B.toInt.toNat < 2 ^ 31
  omega
/-- a counter from s up to B: what its test says -/
theorem lp_in {B : Int32} {s n j N : Nat} (hN : N + s = B.toNatClampNeg) (h : n + (j + 1) = N) : ¬ B ≤ nI (n + s) := by
  intro hle
  have h2 := nI_toNat_lt B
  have h1 := Int32.le_iff_toInt_le.mp hle
  rw [nI_toInt (by omega)] at h1
  have h3 : B.toInt.toNat = B.toNatClampNeg := rfl
  omega
theorem lp_out {B : Int32} {s N : Nat} (hN : N + s = max B.toNatClampNeg s) (hs : s < 2 ^ 31 := by decide) : ¬ ¬ B ≤ nI (N + s) := by
  refine fun h => h (Int32.le_iff_toInt_le.mpr ?_)
  have h2 := nI_toNat_lt B
  have h3 : B.toInt.toNat = B.toNatClampNeg := rfl
  rw [nI_toInt (by omega)]
  omega
theorem lgc0 {x y : Int64} : lg_cmp x y = 0 ↔ x = y := by
  unfold lg_cmp
  by_cases h : x > y
  · rw [if_pos h]
    exact ⟨fun h0 => absurd h0 (by decide), fun e => absurd (e ▸ h : y > y) (fun h2 => by have := Int64.lt_iff_toInt_lt.mp h2; omega)⟩
  · rw [if_neg h]
    by_cases h2 : x = y
    · rw [if_pos h2]; exact ⟨fun _ => h2, fun _ => rfl⟩
    · rw [if_neg h2]; exact ⟨fun h0 => absurd h0 (by decide), fun e => absurd e h2⟩
theorem vin_of {i : Int32} {n : Nat} (hn : n < 2 ^ 31) (h1 : ¬ i < 0) (h2 : ¬ nI n ≤ i) : vp_in i n := by
  rintro (h | h)
  · exact h1 h
  · refine h2 (Int32.le_iff_toInt_le.mpr ?_)
    rw [nI_toInt hn]
    have h3 : i.toInt.toNat = i.toNatClampNeg := rfl
    have h4 : ¬ i.toInt < 0 := fun q => h1 (Int32.lt_iff_toInt_lt.mpr q)
    omega
theorem vin_of' {i : Int32} {n : Nat} (hn : n < 2 ^ 31) (h1 : 0 ≤ i) (h2 : i < nI n) : vp_in i n := by
  refine vin_of hn (fun h => ?_) (fun h => ?_)
  · have a := Int32.le_iff_toInt_le.mp h1
    have b := Int32.lt_iff_toInt_lt.mp h
    omega
  · have a := Int32.lt_iff_toInt_lt.mp h2
    have b := Int32.le_iff_toInt_le.mp h
    omega
theorem nI_leB {B : Int32} {n : Nat} (hn : n < 2 ^ 31) : B ≤ nI n ↔ B.toNatClampNeg ≤ n := by
  rw [Int32.le_iff_toInt_le, nI_toInt hn]
  have h3 : B.toInt.toNat = B.toNatClampNeg := rfl
  omega
theorem nI_ltB {B : Int32} {n : Nat} (hn : n < 2 ^ 31) : B < nI n ↔ B.toInt < n := by
  rw [Int32.lt_iff_toInt_lt, nI_toInt hn]
theorem bd_in1 {d : Int32} {n j : Nat} (h : n + (j + 1) = min d.toNatClampNeg 99) : ¬ d < nI (n + 1) := by
  rw [nI_ltB (by omega)]
  have h3 : d.toInt.toNat = d.toNatClampNeg := rfl
  omega
theorem bd_in2 {d : Int32} {n j : Nat} (h : n + (j + 1) = min d.toNatClampNeg 99) : ¬ (99 : Int32) < nI (n + 1) := by
  rw [nI_ltB (by omega)]
  have h3 : (99 : Int32).toInt = 99 := by decide
  omega
theorem bd_out {d : Int32} (h : ¬ d < nI (min d.toNatClampNeg 99 + 1)) : ¬ ¬ (99 : Int32) < nI (min d.toNatClampNeg 99 + 1) := by
  rw [nI_ltB (by omega)] at h
  refine not_not_intro ((nI_ltB (by omega)).mpr ?_)
  have h3 : (99 : Int32).toInt = 99 := by decide
  have h4 : d.toInt.toNat = d.toNatClampNeg := rfl
  omega
theorem fi_in1 {c : Int32} {n j m : Nat} (h : n + (j + 1) = min c.toNatClampNeg m) : ¬ c ≤ nI n := by
  have h2 := nI_toNat_lt c
  rw [nI_leB (by omega)]
  omega
theorem fi_in2 {c : Int32} {n j m : Nat} (hm : m < 2147483648) (h : n + (j + 1) = min c.toNatClampNeg m) : ¬ nI m ≤ nI n := by
  rw [nI_leI (by omega) (by omega)]
  omega
theorem fi_out {c : Int32} {m : Nat} (hm : m < 2147483648) (h : ¬ c ≤ nI (min c.toNatClampNeg m)) : ¬ ¬ nI m ≤ nI (min c.toNatClampNeg m) := by
  rw [nI_leB (by omega)] at h
  refine not_not_intro ((nI_leI (by omega) (by omega)).mpr ?_)
  omega
/-- a counter 25, 20 .. 0, -5 -/
def sh5 (n : Nat) : Int32 := 25 - 5 * nI n
theorem sh5_s (n : Nat) : sh5 n + Int32.ofInt (-5) = sh5 (n + 1) := by
  unfold sh5
  rw [nI_succ, Int32.mul_add, Int32.mul_one, show Int32.ofInt (-5) = -5 from rfl]
  simp only [Int32.sub_eq_add_neg, Int32.neg_add, Int32.add_assoc]
theorem sh5_in {n j : Nat} (h : n + (j + 1) = 6) : ¬ sh5 n < 0 := by
  have : ∀ n, n < 6 → ¬ sh5 n < 0 := by decide +kernel
  exact this n (by omega)
theorem sh5_out : ¬ ¬ sh5 6 < 0 := by decide +kernel
/-- n rounds of a loop; unfolded by its two laws alone -/
def iter_ {σ : Type} (f : Nat → σ → σ) (a : σ) : Nat → σ
  | 0 => a
  | n + 1 => f n (iter_ f a n)
termination_by n => n
theorem iter_z {σ : Type} (f : Nat → σ → σ) (a : σ) : iter_ f a 0 = a := by rw [iter_]
theorem iter_s {σ : Type} (f : Nat → σ → σ) (a : σ) (n : Nat) : iter_ f a (n + 1) = f n (iter_ f a n) := by rw [iter_]
theorem lgc_lt {x y : Int64} : lg_cmp x y < 0 ↔ x < y := by
  have h := lg_cmp_ge x y
  rw [← Int32.not_le, h, Int64.not_le]
theorem lgc_gt {x y : Int64} : 0 < lg_cmp x y ↔ y < x := by
  have h := lg_cmp_le x y
  rw [← Int32.not_le, h, Int64.not_le]
/-- the first n at which a loop ends, b at most -/
def wh_ (P : Nat → Bool) : Nat → Nat
  | 0 => 0
  | b + 1 => bif P 0 then 0 else 1 + wh_ (fun n => P (n + 1)) b
theorem wh_no : ∀ (b : Nat) (P : Nat → Bool) (n : Nat), n < wh_ P b → P n = false
  | 0, _, _, h => absurd h (Nat.not_lt_zero _)
  | b + 1, P, n, h => by
    rw [wh_] at h
    cases h0 : P 0 with
    | true => rw [h0] at h; exact absurd h (Nat.not_lt_zero _)
    | false =>
      rw [h0] at h
      cases n with
      | zero => exact h0
      | succ n => exact wh_no b (fun n => P (n + 1)) n (by simp only [cond_false] at h; omega)
theorem wh_yes : ∀ (b : Nat) (P : Nat → Bool), (∃ n, n ≤ b ∧ P n = true) → P (wh_ P b) = true
  | 0, P, ⟨n, h, hp⟩ => by
    have : n = 0 := by omega
    subst this; exact hp
  | b + 1, P, ⟨n, h, hp⟩ => by
    rw [wh_]
    cases h0 : P 0 with
    | true => simpa using h0
    | false =>
      simp only [cond_false]
      have hn : n ≠ 0 := fun e => by rw [e, h0] at hp; cases hp
      have := wh_yes b (fun n => P (n + 1)) ⟨n - 1, by omega, by show P (n - 1 + 1) = true; rw [show n - 1 + 1 = n by omega]; exact hp⟩
      rw [Nat.add_comm]; exact this
theorem wh_in {P : Nat → Bool} {b n j : Nat} (h : n + (j + 1) = wh_ P b) : P n = false := wh_no b P n (by omega)
theorem wh_inP {Q : Nat → Prop} [∀ n, Decidable (Q n)] {b n j : Nat} (h : n + (j + 1) = wh_ (fun k => decide (Q k)) b) : ¬ Q n := of_decide_eq_false (wh_no b (fun k => decide (Q k)) n (by omega))
theorem wh_outP {Q : Nat → Prop} [∀ n, Decidable (Q n)] {b : Nat} (h : ∃ n, n ≤ b ∧ Q n) : ¬ ¬ Q (wh_ (fun k => decide (Q k)) b) := by
  obtain ⟨n, h1, h2⟩ := h
  exact not_not_intro (of_decide_eq_true (wh_yes b (fun k => decide (Q k)) ⟨n, h1, decide_eq_true h2⟩))
theorem vin_lt {x : Int32} {n : Nat} (h : vp_in x (n + 1)) : x.toNatClampNeg ≤ n := by
  have := (vp_in_iff.mp h)
  have h3 : x.toInt.toNat = x.toNatClampNeg := rfl
  omega
theorem vin_nI {x : Int32} {n : Nat} (h : vp_in x n) : x = nI x.toNatClampNeg ∧ x.toNatClampNeg < n := by
  have h1 := vp_in_iff.mp h
  have h3 : x.toInt.toNat = x.toNatClampNeg := rfl
  refine ⟨?_, by omega⟩
  apply Int32.toInt_inj.mp
  have h4 := x.toInt_lt
  rw [nI_toInt (by omega)]
  omega
theorem vin_d {x : Int32} {n : Nat} (h : (decide (x < 0) || decide (n ≤ x.toNatClampNeg)) = false) : vp_in x n := by
  rintro (q | q)
  · simp [q] at h
  · simp [q] at h
theorem wh_le : ∀ {b : Nat} {P : Nat → Bool}, wh_ P b ≤ b
  | 0, _ => Nat.le_refl _
  | b + 1, P => by
    rw [wh_]
    cases h0 : P 0 with
    | true => exact Nat.zero_le _
    | false =>
      have := @wh_le b (fun n => P (n + 1))
      simp only [cond_false]
      omega
theorem sw_out {v : Int32} {lo n : Nat} (hn : lo + n < 2 ^ 31) (h : ∀ i, i < n → ¬ v = nI (lo + i)) : v.toInt < (lo : Int) ∨ ((lo + n : Nat) : Int) - 1 < v.toInt := by
  rcases Int.lt_or_le v.toInt (lo : Int) with q | q
  · exact Or.inl q
  · rcases Int.lt_or_le (((lo + n : Nat) : Int) - 1) v.toInt with q2 | q2
    · exact Or.inr q2
    · exfalso
      refine h (v.toInt.toNat - lo) (by omega) ?_
      apply Int32.toInt_inj.mp
      rw [nI_toInt (by omega)]
      omega
