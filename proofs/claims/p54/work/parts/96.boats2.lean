/-! all the boats -/
section BB
variable {E : Int32} {n : Nat} {tp mTape : Nat → Int32} {u : Nat → Nat} {s : TT} {pk pst pe dnB : Int32} {dbNames : Nat → Int32}
theorem T8_dead {e : Int32} (h : PD e s) (nb : Int32) (bn : Nat → Int32) : (T_X12_readAll_8 (nI n) mTape) (st10 s nb bn) = .inr (st10 s nb bn) := by
  rw [T8_eq, isWord_dead h]
  rfl
theorem T8_more (h : f_X12_isWord s.2.2.1 s.2.2.2.2.2.2.2 s.2.1 80948 = true) {k : Nat} (hk : k < 100) (bn : Nat → Int32) (hf : (bz3 n mTape (nI k) bn s).2.1 = 1) : (T_X12_readAll_8 (nI n) mTape) (st10 s (nI k) bn) = .inl (st10 (bz3 n mTape (nI k) bn s) (nI (k + 1)) (upd bn k (bz1 n mTape (nI k) s).2.2.2.1)) := by
  rw [T8_eq, h, hf, nI_1, nI_clamp (by omega)]
  rfl
theorem T8_last (h : f_X12_isWord s.2.2.1 s.2.2.2.2.2.2.2 s.2.1 80948 = true) {e : Int32} {nb : Int32} (bn : Nat → Int32) (hf : PD e (bz3 n mTape nb bn s)) : (T_X12_readAll_8 (nI n) mTape) (st10 s nb bn) = .inl (st10 (bz3 n mTape nb bn s) nb bn) := by
  rw [T8_eq, h, hf.2]
  rfl
theorem F_some {r : Bool × (Nat → Int32) × Int32 × TC} (h : (fst_ (fun k => E_X4_readBoats_2 pk pst pe tp (nI n) dbNames dnB k) 6) = some r) : (f_X4_readBoats pk pst pe tp (nI n) dbNames dnB) = r := by
  unfold f_X4_readBoats
  rw [h, Option.getD_some]
theorem F_kw (h : (fst_ (fun k => E_X4_readBoats_2 pk pst pe tp (nI n) dbNames dnB k) 6) = none) (q : f_X4_isKeyword (L_X4_readBoats_2 pk pst pe tp (nI n) dbNames dnB 6).2.2.2.1 (L_X4_readBoats_2 pk pst pe tp (nI n) dbNames dnB 6).2.2.2.2 (L_X4_readBoats_2 pk pst pe tp (nI n) dbNames dnB 6).2.2.1 tp (nI n) 7 = true) : (f_X4_readBoats pk pst pe tp (nI n) dbNames dnB) = (false, (L_X4_readBoats_2 pk pst pe tp (nI n) dbNames dnB 6).1, (L_X4_readBoats_2 pk pst pe tp (nI n) dbNames dnB 6).2.1, (L_X4_readBoats_2 pk pst pe tp (nI n) dbNames dnB 6).2.2.1, (L_X4_readBoats_2 pk pst pe tp (nI n) dbNames dnB 6).2.2.2.1, (L_X4_readBoats_2 pk pst pe tp (nI n) dbNames dnB 6).2.2.2.2) := by
  unfold f_X4_readBoats
  rw [h, Option.getD_none, q, cond_true]
theorem eta5 (sn : (Nat → Int32) × Int32 × TC) : (sn.1, sn.2.1, sn.2.2.1, sn.2.2.2.1, sn.2.2.2.2) = sn := by
  obtain ⟨a, b, k, l, m⟩ := sn
  rfl
theorem F_end (h : (fst_ (fun k => E_X4_readBoats_2 pk pst pe tp (nI n) dbNames dnB k) 6) = none) (q : f_X4_isKeyword (L_X4_readBoats_2 pk pst pe tp (nI n) dbNames dnB 6).2.2.2.1 (L_X4_readBoats_2 pk pst pe tp (nI n) dbNames dnB 6).2.2.2.2 (L_X4_readBoats_2 pk pst pe tp (nI n) dbNames dnB 6).2.2.1 tp (nI n) 7 = false) : (f_X4_readBoats pk pst pe tp (nI n) dbNames dnB) = (true, (L_X4_readBoats_2 pk pst pe tp (nI n) dbNames dnB 6)) := by
  unfold f_X4_readBoats
  rw [h, Option.getD_none, q, cond_false, eta5]
theorem bad_out {A : Bool × (Nat → Int32) × Int32 × TC} {a : Nat → Int32} {b : Int32} {x : TC} (q : A = (false, a, b, x.1, x.2.1, x.2.2)) (d : PD x.2.2 s) : A.1 = false ∧ PD A.2.2.2.2.2 s := by
  rw [q]
  exact ⟨rfl, d⟩
theorem boats_from (hc : CH n tp mTape u) (hn : n ≤ 800) : ∀ (m k : Nat) (sn : (Nat → Int32) × Int32 × TC) (s : TT) (bn : Nat → Int32), k + m = 6 → (fst_ (fun k => E_X4_readBoats_2 pk pst pe tp (nI n) dbNames dnB k) k) = none → (L_X4_readBoats_2 pk pst pe tp (nI n) dbNames dnB k) = sn → BS E n tp k sn s bn → ∃ s' b' bn', whl_ (T_X12_readAll_8 (nI n) mTape) (m + 3) (st10 s (nI k) bn) = st10 s' (nI b') bn' ∧ b' ≤ 6 ∧ (((f_X4_readBoats pk pst pe tp (nI n) dbNames dnB).1 = true ∧ BS E n tp b' (f_X4_readBoats pk pst pe tp (nI n) dbNames dnB).2 s' bn') ∨ ((f_X4_readBoats pk pst pe tp (nI n) dbNames dnB).1 = false ∧ PD (f_X4_readBoats pk pst pe tp (nI n) dbNames dnB).2.2.2.2.2 s'))
  | 0, k, sn, s, bn, hk, hf, hl, h => by
    have k6 : k = 6 := by omega
    subst k6
    have w := isWord_pl h.2.1 (x := 7) (by decide)
    rw [← hl] at w
    cases q : f_X4_isKeyword (L_X4_readBoats_2 pk pst pe tp (nI n) dbNames dnB 6).2.2.2.1 (L_X4_readBoats_2 pk pst pe tp (nI n) dbNames dnB 6).2.2.2.2 (L_X4_readBoats_2 pk pst pe tp (nI n) dbNames dnB 6).2.2.1 tp (nI n) 7
    · rw [q] at w
      refine ⟨s, 6, bn, whl_o (by rw [T8_eq, show f_X12_isWord s.2.2.1 s.2.2.2.2.2.2.2 s.2.1 80948 = false from w]; rfl), Nat.le_refl _, Or.inl ?_⟩
      rw [F_end hf q, hl]
      exact ⟨rfl, h⟩
    · rw [q] at w
      have d1 : PD sn.2.2.2.2 (bz1 n mTape (nI 6) s) := by
        unfold bz1 J_X12_readBoat_9
        rw [if_pos (show (6 : Int32) ≤ nI 6 by decide)]
        exact (tkz_fail h.2.1).1
      have d3 := dead_b1 (bn := bn) d1
      refine ⟨bz3 n mTape (nI 6) bn s, 6, bn, (whl_i (T8_last w bn d3)).trans (whl_o (T8_dead d3 _ _)), Nat.le_refl _, Or.inr ?_⟩
      have d3' := d3
      rw [← hl] at d3'
      exact bad_out (x := (L_X4_readBoats_2 pk pst pe tp (nI n) dbNames dnB 6).2.2) (F_kw hf q) d3'
  | m + 1, k, sn, s, bn, hk, hf, hl, h => by
    have hk6 : k < 6 := by omega
    rcases it_boat (pk := pk) (pst := pst) (pe := pe) (dbNames := dbNames) (dnB := dnB) hc hn hk6 h with ⟨w, e0, b⟩ | ⟨w, r, e0, e1, d⟩ | ⟨w, e0⟩
    · have hE : E_X4_readBoats_2 pk pst pe tp (nI n) dbNames dnB k = none := by rw [EEb_eq, hl]; exact e0
      have hL : (L_X4_readBoats_2 pk pst pe tp (nI n) dbNames dnB (k + 1)) = G_X4_readBoats_2 pk pst pe tp (nI n) dbNames dnB k sn := (iter_s _ _ _).trans (congrArg (G_X4_readBoats_2 pk pst pe tp (nI n) dbNames dnB k) hl)
      obtain ⟨s', b', bn', x1, x2, x3⟩ := boats_from hc hn m (k + 1) _ _ _ (by omega) (fst_n hf hE) hL b
      refine ⟨s', b', bn', ?_, x2, x3⟩
      rw [← x1]
      exact whl_i (T8_more w (by omega) bn b.2.1.2.1)
    · have hE : E_X4_readBoats_2 pk pst pe tp (nI n) dbNames dnB k = some r := by rw [EEb_eq, hl]; exact e0
      refine ⟨bz3 n mTape (nI k) bn s, k, bn, (whl_i (T8_last w bn d)).trans (whl_o (T8_dead d _ _)), by omega, Or.inr ?_⟩
      rw [F_some (fst_s hf hE hk6)]
      exact ⟨e1, d⟩
    · have hE : E_X4_readBoats_2 pk pst pe tp (nI n) dbNames dnB k = some (true, sn) := by rw [EEb_eq, hl]; exact e0
      refine ⟨s, k, bn, whl_o (by rw [T8_eq, w]; rfl), by omega, Or.inl ?_⟩
      rw [F_some (fst_s hf hE hk6)]
      exact ⟨rfl, h⟩
end BB
