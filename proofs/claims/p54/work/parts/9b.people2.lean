/-! all the people from the third on -/
section PP
variable {E : Int32} {n : Nat} {tp mTape : Nat → Int32} {u : Nat → Nat} {s sB : TT} {mErr mRa mVal mLet mFin mNb : Int32} {mWd : Int64} {mnNum mnBn bn bo nam : Nat → Int32} {B k : Nat}
variable {pk pst pe dnB dnP : Int32} {dbNames dpNames dfBoats : Nat → Int32}
theorem T33_dead (hX : (X_X12_readAll_8 (nI n) mErr mRa mWd mVal mLet mFin mNb mTape mnNum mnBn) = st10 sB (nI B) bn) {e : Int32} (h : PD e s) (np : Int32) (bo nam : Nat → Int32) : (T_X12_readAll_33 (nI n) mErr mRa mWd mVal mLet mFin mNb mTape mnNum mnBn) (st11 s np bo nam) = .inr (st11 s np bo nam) := by
  rw [T33_eq hX, h.2]
  rfl
theorem T33_end (hX : (X_X12_readAll_8 (nI n) mErr mRa mWd mVal mLet mFin mNb mTape mnNum mnBn) = st10 sB (nI B) bn) (h1 : s.2.1 = 1) (h : s.2.2.1 = 0) (np : Int32) (bo nam : Nat → Int32) : (T_X12_readAll_33 (nI n) mErr mRa mWd mVal mLet mFin mNb mTape mnNum mnBn) (st11 s np bo nam) = .inr (st11 s np bo nam) := by
  rw [T33_eq hX, h1, if_pos h]
  rfl
theorem T33_more (hX : (X_X12_readAll_8 (nI n) mErr mRa mWd mVal mLet mFin mNb mTape mnNum mnBn) = st10 sB (nI B) bn) (h1 : s.2.1 = 1) (h : ¬ s.2.2.1 = 0) (hk : k < 100) (hf : (pz4 n mTape (nI k) (nI B) nam bn s).2.1 = 1) : (T_X12_readAll_33 (nI n) mErr mRa mWd mVal mLet mFin mNb mTape mnNum mnBn) (st11 s (nI k) bo nam) = .inl (st11 (pz4 n mTape (nI k) (nI B) nam bn s) (nI (k + 1)) (upd bo k (jzz n mTape (nI B) bn (pz2 n mTape (nI k) nam s)).1) (upd nam k (pz1 n mTape (nI k) s).2.2.2.1)) := by
  rw [T33_eq hX, h1, if_neg h, hf, nI_1, nI_clamp (by omega)]
  rfl
theorem T33_last (hX : (X_X12_readAll_8 (nI n) mErr mRa mWd mVal mLet mFin mNb mTape mnNum mnBn) = st10 sB (nI B) bn) (h1 : s.2.1 = 1) (h : ¬ s.2.2.1 = 0) {e : Int32} (hf : PD e (pz4 n mTape (nI k) (nI B) nam bn s)) : (T_X12_readAll_33 (nI n) mErr mRa mWd mVal mLet mFin mNb mTape mnNum mnBn) (st11 s (nI k) bo nam) = .inl (st11 (pz4 n mTape (nI k) (nI B) nam bn s) (nI k) bo nam) := by
  rw [T33_eq hX, h1, if_neg h, hf.2]
  rfl
theorem Q_some {r : Bool × (Nat → Int32) × Int32 × (Nat → Int32) × TC} (h : (fst_ (fun k => E_X4_readPeople_2 pk pst pe tp (nI n) dbNames dpNames dfBoats dnB dnP k) 20) = some r) : (f_X4_readPeople pk pst pe tp (nI n) dbNames dpNames dfBoats dnB dnP) = r := by
  unfold f_X4_readPeople
  rw [h, Option.getD_some]
theorem Q_end (h : (fst_ (fun k => E_X4_readPeople_2 pk pst pe tp (nI n) dbNames dpNames dfBoats dnB dnP k) 20) = none) : (f_X4_readPeople pk pst pe tp (nI n) dbNames dpNames dfBoats dnB dnP) = if (L_X4_readPeople_2 pk pst pe tp (nI n) dbNames dpNames dfBoats dnB dnP 20).2.2.2.2.1 = 0 then (true, (L_X4_readPeople_2 pk pst pe tp (nI n) dbNames dpNames dfBoats dnB dnP 20)) else (false, (L_X4_readPeople_2 pk pst pe tp (nI n) dbNames dpNames dfBoats dnB dnP 20)) := by
  unfold f_X4_readPeople
  rw [h, Option.getD_none, eta6]
theorem people_from (hc : CH n tp mTape u) (hn : n ≤ 800) (hB : B ≤ 6) (hb : dnB = nI B) (hbn : ∀ i, i < B → dbNames i = bn i) (hX : (X_X12_readAll_8 (nI n) mErr mRa mWd mVal mLet mFin mNb mTape mnNum mnBn) = st10 sB (nI B) bn) : ∀ (m k : Nat) (sn : (Nat → Int32) × Int32 × (Nat → Int32) × TC) (s : TT) (bo nam : Nat → Int32), k + m = 20 → 2 ≤ k → (fst_ (fun k => E_X4_readPeople_2 pk pst pe tp (nI n) dbNames dpNames dfBoats dnB dnP k) k) = none → (L_X4_readPeople_2 pk pst pe tp (nI n) dbNames dpNames dfBoats dnB dnP k) = sn → PS B E n tp k sn s bo nam → ∃ s' p' bo' nam', whl_ (T_X12_readAll_33 (nI n) mErr mRa mWd mVal mLet mFin mNb mTape mnNum mnBn) (m + 5) (st11 s (nI k) bo nam) = st11 s' (nI p') bo' nam' ∧ p' ≤ 20 ∧ 2 ≤ p' ∧ (((f_X4_readPeople pk pst pe tp (nI n) dbNames dpNames dfBoats dnB dnP).1 = true ∧ PS B E n tp p' (f_X4_readPeople pk pst pe tp (nI n) dbNames dpNames dfBoats dnB dnP).2 s' bo' nam') ∨ ((f_X4_readPeople pk pst pe tp (nI n) dbNames dpNames dfBoats dnB dnP).1 = false ∧ PD (f_X4_readPeople pk pst pe tp (nI n) dbNames dpNames dfBoats dnB dnP).2.2.2.2.2.2 s'))
  | 0, k, sn, s, bo, nam, hk, h2, hf, hl, h => by
    have k20 : k = 20 := by omega
    subst k20
    have e0 := h.2.1.2.2.2.2.2.1
    rw [Q_end hf, hl]
    by_cases q : sn.2.2.2.2.1 = 0
    · rw [if_pos q]
      exact ⟨s, 20, bo, nam, whl_o (T33_end hX h.2.1.2.1 (e0.mp q) _ _ _), Nat.le_refl _, h2, Or.inl ⟨rfl, h⟩⟩
    · rw [if_neg q]
      have d1 : PD sn.2.2.2.2.2 (pz1 n mTape (nI 20) s) := by
        unfold pz1 J_X12_readPerson_13
        rw [if_pos (show (20 : Int32) ≤ nI 20 by decide)]
        cases f_X12_isWord s.2.2.1 s.2.2.2.2.2.2.2 s.2.1 542723566
        · exact (tkz_fail h.2.1).1
        · exact (tkz_fail h.2.1).1
      have d := dead_p1 (nb := nI B) (nam := nam) (bn := bn) d1
      exact ⟨_, 20, bo, nam, (whl_i (T33_last hX h.2.1.2.1 (fun z => q (e0.mpr z)) d)).trans (whl_o (T33_dead hX d _ _ _)), Nat.le_refl _, h2, Or.inr ⟨rfl, d⟩⟩
  | m + 1, k, sn, s, bo, nam, hk, h2, hf, hl, h => by
    have hk20 : k < 20 := by omega
    have e0 := h.2.1.2.2.2.2.2.1
    have h2' : ¬ nI k < 2 := fun z => by have := (nI_ltI (b := 2) (by omega) (by decide)).mp z; omega
    have hE : E_X4_readPeople_2 pk pst pe tp (nI n) dbNames dpNames dfBoats dnB dnP k = _ := (EEp_eq pk pst pe tp (nI n) dbNames dpNames dfBoats dnB dnP k).trans ((congrArg (EEp pk pst pe tp (nI n) dbNames dpNames dfBoats dnB dnP k) hl).trans EEp_rw)
    rw [if_neg h2'] at hE
    by_cases q : sn.2.2.2.2.1 = 0
    · rw [if_pos q] at hE
      refine ⟨s, k, bo, nam, whl_o (T33_end hX h.2.1.2.1 (e0.mp q) _ _ _), by omega, h2, Or.inl ?_⟩
      rw [Q_some (fst_s hf hE hk20)]
      exact ⟨rfl, h⟩
    · rw [if_neg q] at hE
      have q' : ¬ s.2.2.1 = 0 := fun z => q (e0.mpr z)
      rcases it_person hc hn hk20 hB hb hbn h with ⟨o1, o2, b⟩ | ⟨o1, o2, d⟩ | ⟨o1, d⟩
      · rw [o1, o2] at hE
        have hL : (L_X4_readPeople_2 pk pst pe tp (nI n) dbNames dpNames dfBoats dnB dnP (k + 1)) = _ := (iter_s _ _ _).trans ((congrArg (G_X4_readPeople_2 pk pst pe tp (nI n) dbNames dpNames dfBoats dnB dnP k) hl).trans (Gp_rw (Or.inr q) o1 o2))
        obtain ⟨s', p', bo', nam', x1, x2, x3, x4⟩ := people_from hc hn hB hb hbn hX m (k + 1) _ _ _ _ (by omega) (by omega) (fst_n hf hE) hL b
        refine ⟨s', p', bo', nam', ?_, x2, x3, x4⟩
        rw [← x1]
        exact whl_i (T33_more hX h.2.1.2.1 q' (by omega) b.2.1.2.1)
      · rw [o1, o2] at hE
        refine ⟨_, k, bo, nam, (whl_i (T33_last hX h.2.1.2.1 q' d)).trans (whl_o (T33_dead hX d _ _ _)), by omega, h2, Or.inr ?_⟩
        rw [Q_some (fst_s hf hE hk20)]
        exact ⟨rfl, d⟩
      · rw [o1] at hE
        refine ⟨_, k, bo, nam, (whl_i (T33_last hX h.2.1.2.1 q' d)).trans (whl_o (T33_dead hX d _ _ _)), by omega, h2, Or.inr ?_⟩
        rw [Q_some (fst_s hf hE hk20)]
        exact ⟨rfl, d⟩
end PP
