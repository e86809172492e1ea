section GX
variable {p : Program} {l : Launch} {e : Env} {R : Room} {s : State} {m : MethodId} {args : Array Value} {below : List Frame} {meth : Method} {c : Code} {H : Heap} {locs : List Loc} {cells slots : Nat} {Q : State → Prop}
variable {cc : ByteArray} {nL pc : Nat} {ls : Array Slot} {rest : List Value} {D : va_G} {A : Nat → Prop} {w0 E E' : va_W} {own : String} {H0 : Heap} {α : Nat → Nat} {k a N0 : Nat}
theorem n_newq (S : CallFix p m c cc nL s args lw_all own) (hK : va_K D vwCl (gTys D) s) (hP : va_P D vwCl (w0 ++ E) H) (hD : va_D A (w0 ++ E)) (hE : EV D A s s.heap) (hS : va_S A H0 H locs) (hA : ∀ q, a ≤ q → A q) (hα : ∀ i, i < N0 → α (k + i) = a + i) (hsz : s.heap.size = a + 1) (hk : w0.length = k) (i : Nat) {x0 : va_E} (he : E[i]? = some (α (k + i), x0)) (hi : i + 1 < N0) (hcc : cells = i) {index : Nat} (hcl : Cond.classLink own index "StickVotes$State" ∈ lw_all) {n : Int32} {N' : Nat} (hn : ¬ n < 0) (hN : n.toNatClampNeg = N') (hbytes : N' * 4 ≤ 536870912) (hcells : cells + 1 ≤ R.cells) (hslots : slots + N' ≤ R.slots) (hE2 : E ++ [(α (k + (i + 1)), .inl (D.1 103, N', .inr (.inr (.inr (.inr (fun _ => none))))))] = E') (hdg : decode cc pc = .ok (.anewarray index, 3))
    (kk : ∀ (H1 : Heap), va_P D vwCl (w0 ++ E') H1 → va_D A (w0 ++ E') → va_S A H0 H1 locs → W p l e R s m args below meth c H1 locs (cells + 1) (slots + N') Q (F0 m (pc + 3) ls (.ref (α (k + (i + 1))) :: rest))) : W p l e R s m args below meth c H locs cells slots Q (F0 m pc ls (.int n :: rest)) := by
  refine n_size hsz hP hk hα he (Nat.lt_of_succ_lt hi) hcc (fun hz => ?_)
  refine g_newq S hK hP hD hE hS (hA _ (by omega)) hcl hn hN hbytes hcells hslots hdg (fun H1 z1 hP1 hD1 hS1 => ?_)
  have hw := ap_new (w0 := w0) (x := .inl (D.1 103, N', .inr (.inr (.inr (.inr (fun _ => none)))))) hα hz hi hE2
  rw [hw] at hP1 hD1
  have h := kk H1 hP1 hD1 hS1
  rw [hα _ hi, ← hz] at h
  exact h
theorem n_put (S : CallFix p m c cc nL s args lw_all own) (hK : va_K D vwCl (gTys D) s) (hP : va_P D vwCl (w0 ++ E) H) (hD : va_D A (w0 ++ E)) (hS : va_S A H0 H locs) (hk : w0.length = k) {q a' ci N index : Nat} {fs : List Value} {C : String} {T : u_T} (he : E[q]? = some (a', .inr (ci, fs))) (hc : vwCl[ci]? = some (C, T, N)) (hin : ∀ w ∈ u_ws C T N, w ∈ lw_all) {ty0 : Nat → FieldType} (hty : ∀ k, k < N → parseFieldDescriptor (T k).2.2.1 = some (ty0 k)) (hnm : ∀ a, a < N → ∀ b, b < N → a ≠ b → (T a).2.1 ≠ (T b).2.1) (f : Nat) (hf : f < N) (hl : Cond.fieldLink own index (T f).1 (T f).2.1 (T f).2.2.1 ∈ lw_all) (hfin : (T f).2.2.2 = false) {v : Value} (hn : narrow (ty0 f) v = v) (hfit : fits (ty0 f) v = true) (hlen : f < fs.length) (hE : E.set q (a', .inr (ci, fs.set f v)) = E') (hdg : decode cc pc = .ok (.putfield index, 3))
    (kk : ∀ (H1 : Heap) (locs1 : List Loc), va_P D vwCl (w0 ++ E') H1 → va_D A (w0 ++ E') → va_S A H0 H1 locs1 → W p l e R s m args below meth c H1 locs1 cells slots Q (F0 m (pc + 3) ls rest)) : W p l e R s m args below meth c H locs cells slots Q (F0 m pc ls (v :: .ref a' :: rest)) := by
  refine g_put S hK hP hD hS (ap_at hk he) hc hin hty hnm f hf hl hfin hn hfit hlen hdg (fun w1 H1 locs1 hw hP1 hD1 hS1 => ?_)
  have h := ap_set hk hw hE
  subst h
  exact kk H1 locs1 hP1 hD1 hS1
theorem n_iast (S : CallFix p m c cc nL s args lw_all own) (hK : va_K D vwCl (gTys D) s) (hP : va_P D vwCl (w0 ++ E) H) (hD : va_D A (w0 ++ E)) (hS : va_S A H0 H locs) (hk : w0.length = k) {q a' n : Nat} {f : Nat → Int32} (he : E[q]? = some (a', .inl (D.1 100, n, .inl f))) {i x : Int32} (hin : vp_in i n) (hE : E.set q (a', .inl (D.1 100, n, .inl (upd f i.toNatClampNeg x))) = E') (hdg : decode cc pc = .ok (.iastore, 1))
    (kk : ∀ (H1 : Heap) (locs1 : List Loc), va_P D vwCl (w0 ++ E') H1 → va_D A (w0 ++ E') → va_S A H0 H1 locs1 → W p l e R s m args below meth c H1 locs1 cells slots Q (F0 m (pc + 1) ls rest)) : W p l e R s m args below meth c H locs cells slots Q (F0 m pc ls (.int x :: .int i :: .ref a' :: rest)) := by
  refine g_iast S hK hP hD hS (ap_at hk he) hin hdg (fun w1 H1 locs1 hw hP1 hD1 hS1 => ?_)
  have h := ap_set hk hw hE
  subst h
  exact kk H1 locs1 hP1 hD1 hS1
theorem n_astq (S : CallFix p m c cc nL s args lw_all own) (hK : va_K D vwCl (gTys D) s) (hP : va_P D vwCl (w0 ++ E) H) (hD : va_D A (w0 ++ E)) (hS : va_S A H0 H locs) (hk : w0.length = k) {q a' n : Nat} {f : Nat → Option Nat} (he : E[q]? = some (a', .inl (D.1 103, n, .inr (.inr (.inr (.inr f)))))) {qk v : Nat} {vs : List Value} (hv : E[qk]? = some (v, .inr (8, vs))) {i : Int32} (hin : vp_in i n) (hE : E.set q (a', .inl (D.1 103, n, .inr (.inr (.inr (.inr (va_up f i.toNatClampNeg (some v))))))) = E') (hdg : decode cc pc = .ok (.aastore, 1))
    (kk : ∀ (H1 : Heap) (locs1 : List Loc), va_P D vwCl (w0 ++ E') H1 → va_D A (w0 ++ E') → va_S A H0 H1 locs1 → W p l e R s m args below meth c H1 locs1 cells slots Q (F0 m (pc + 1) ls rest)) : W p l e R s m args below meth c H locs cells slots Q (F0 m pc ls (.ref v :: .int i :: .ref a' :: rest)) := by
  refine va_astq (r := (RX8, TX8, 12)) S.1 S.2.1 hK hP hD hS (k + q) 3 (k + qk) 8 (ap_at hk he) rfl (ap_at hk hv) rfl hin hdg (fun H1 locs1 hP1 hD1 hS1 => ?_)
  have h := ap_set hk rfl hE
  rw [h] at hP1 hD1
  exact kk H1 locs1 hP1 hD1 hS1
end GX
theorem va_P.arq {D : va_G} {w0 E E' : va_W} {H : Heap} {k q a n : Nat} {f g : Nat → Option Nat} (hk : w0.length = k) (h : va_P D vwCl (w0 ++ E) H) (he : E[q]? = some (a, .inl (D.1 103, n, .inr (.inr (.inr (.inr f)))))) (hfg : ∀ j, j < n → f j = g j) (hE : E.set q (a, .inl (D.1 103, n, .inr (.inr (.inr (.inr g))))) = E') : va_P D vwCl (w0 ++ E') H := by
  have hw := ap_set (w := (w0 ++ E).set (k + q) (a, .inl (D.1 103, n, .inr (.inr (.inr (.inr g)))))) hk rfl hE
  rw [← hw]
  intro i x hx
  have h0 := h _ _ (ap_at hk he)
  by_cases e : i = k + q
  · subst e
    rw [List.getElem?_set_self (List.getElem?_eq_some_iff.mp (ap_at hk he)).1] at hx
    cases hx
    show H[a]? = some (vp_cell _ _)
    rw [vp_cell_q]
    have h1 : H[a]? = some (arrV (D.1 103) n (fun j => va_rf (f j))) := h0
    rw [h1]
    unfold arrV
    congr 3
    funext j
    exact congrArg va_rf (hfg _ j.isLt)
  · rw [List.getElem?_set_ne (fun z => e z.symm)] at hx
    exact h _ _ hx
theorem va_D.arq {D : va_G} {A : Nat → Prop} {w0 E E' : va_W} {k q a n : Nat} {f g : Nat → Option Nat} (hk : w0.length = k) (h : va_D A (w0 ++ E)) (he : E[q]? = some (a, .inl (D.1 103, n, .inr (.inr (.inr (.inr f)))))) (hE : E.set q (a, .inl (D.1 103, n, .inr (.inr (.inr (.inr g))))) = E') : va_D A (w0 ++ E') := by
  have hw := ap_set (w := (w0 ++ E).set (k + q) (a, .inl (D.1 103, n, .inr (.inr (.inr (.inr g)))))) hk rfl hE
  rw [← hw]
  have old : ∀ (i : Nat) (x : Nat × va_E), ((w0 ++ E).set (k + q) (a, .inl (D.1 103, n, .inr (.inr (.inr (.inr g))))))[i]? = some x → ∃ y, (w0 ++ E)[i]? = some y ∧ y.1 = x.1 := by
    intro i x hx
    by_cases e : i = k + q
    · subst e
      rw [List.getElem?_set_self (List.getElem?_eq_some_iff.mp (ap_at hk he)).1] at hx
      cases hx
      exact ⟨_, ap_at hk he, rfl⟩
    · rw [List.getElem?_set_ne (fun z => e z.symm)] at hx
      exact ⟨_, hx, rfl⟩
  refine ⟨fun i j x y hx hy hxy => ?_, fun i x hx => ?_⟩
  · obtain ⟨x', h1, h2⟩ := old i x hx
    obtain ⟨y', h3, h4⟩ := old j y hy
    exact h.1 i j x' y' h1 h3 (by rw [h2, h4, hxy])
  · obtain ⟨x', h1, h2⟩ := old i x hx
    rw [← h2]
    exact h.2 i x' h1
theorem Blk.ap {w0 E : va_W} {k : Nat} (hk : w0.length = k) : Blk (w0 ++ E) k E := fun _ _ hx => ap_at hk hx
