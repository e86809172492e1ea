/-! the same rows over a world that grows behind w0 -/
section GM
variable {p : Program} {l : Launch} {e : Env} {R : Room} {s : State} {m : MethodId} {args : Array Value} {below : List Frame} {meth : Method} {c : Code} {H : Heap} {locs : List Loc} {cells slots : Nat} {Q : State → Prop}
variable {cc : ByteArray} {nL pc : Nat} {ls : Array Slot} {rest : List Value} {D : va_G} {A : Nat → Prop} {w0 E E' : va_W} {own : String} {H0 : Heap} {α : Nat → Nat} {k a N0 : Nat}
theorem ap_new {x : va_E} {i : Nat} (hα : ∀ i, i < N0 → α (k + i) = a + i) (hz : H.size = a + i) (hi : i < N0) (hE : E ++ [(α (k + i), x)] = E') : (w0 ++ E) ++ [(H.size, x)] = w0 ++ E' := by
  subst hE
  rw [hz, ← hα i hi, List.append_assoc]
/-- how large the heap is: no more than was made, no less than the last cell's place -/
theorem n_size (hsz : s.heap.size = a + 1) (hP : va_P D vwCl (w0 ++ E) H) (hk : w0.length = k) (hα : ∀ i, i < N0 → α (k + i) = a + i) {j : Nat} {x0 : va_E} (he : E[j]? = some (α (k + j), x0)) (hj : j < N0) (hc : cells = j) {g : JFrame} (kk : H.size = a + (j + 1) → W p l e R s m args below meth c H locs cells slots Q g) : W p l e R s m args below meth c H locs cells slots Q g := by
  intro T hT X
  have h1 : H.size ≤ s.heap.size + cells := by rw [← hT]; exact X.same.2.2.1
  have h2 : α (k + j) < H.size := (hP _ _ (ap_at hk he)).lt
  rw [hα j hj] at h2
  exact kk (by omega) T hT X
theorem n_new (S : CallFix p m c cc nL s args lw_all own) (hK : va_K D vwCl (gTys D) s) (hP : va_P D vwCl (w0 ++ E) H) (hD : va_D A (w0 ++ E)) (hS : va_S A H0 H locs) (hA : ∀ q, a ≤ q → A q) (hα : ∀ i, i < N0 → α (k + i) = a + i) (hsz : s.heap.size = a + 1) (hk : w0.length = k) (i : Nat) {x0 : va_E} (he : E[i]? = some (α (k + i), x0)) (hi : i + 1 < N0) (hcc : cells = i) {ci index N : Nat} {C : String} {T : u_T} {ty0 : Nat → FieldType} {fs : List Value} (hin : ∀ w ∈ u_ws C T N, w ∈ lw_all) (hty : ∀ k, k < N → parseFieldDescriptor (T k).2.2.1 = some (ty0 k)) (hc : vwCl[ci]? = some (C, T, N)) (hcl : Cond.classLink own index C ∈ lw_all) (hinst : Cond.instantiable C N ∈ lw_all) (hini : Cond.initialized C ∈ lw_all) (hfs : ∀ j, j < N → defaultValue (ty0 j) = vp_V fs j) (hcells : cells + 1 ≤ R.cells) (hslots : slots + N ≤ R.slots) (hE : E ++ [(α (k + (i + 1)), .inr (ci, fs))] = E') (hdg : decode cc pc = .ok (.new index, 3))
    (kk : ∀ (H1 : Heap), va_P D vwCl (w0 ++ E') H1 → va_D A (w0 ++ E') → va_S A H0 H1 locs → W p l e R s m args below meth c H1 locs (cells + 1) (slots + N) Q (F0 m (pc + 3) ls (.ref (α (k + (i + 1))) :: rest))) : W p l e R s m args below meth c H locs cells slots Q (F0 m pc ls rest) := by
  refine n_size hsz hP hk hα he (Nat.lt_of_succ_lt hi) hcc (fun hz => ?_)
  refine g_new S hK hP hD hS (hA _ (by omega)) hin hty hc hcl hinst hini hfs hcells hslots hdg (fun H1 z1 hP1 hD1 hS1 => ?_)
  have hw := ap_new (w0 := w0) (x := .inr (ci, fs)) hα hz hi hE
  rw [hw] at hP1 hD1
  have h := kk H1 hP1 hD1 hS1
  rw [hα _ hi, ← hz] at h
  exact h
theorem n_newa (S : CallFix p m c cc nL s args lw_all own) (hK : va_K D vwCl (gTys D) s) (hP : va_P D vwCl (w0 ++ E) H) (hD : va_D A (w0 ++ E)) (hS : va_S A H0 H locs) (hA : ∀ q, a ≤ q → A q) (hα : ∀ i, i < N0 → α (k + i) = a + i) (hsz : s.heap.size = a + 1) (hk : w0.length = k) (i : Nat) {x0 : va_E} (he : E[i]? = some (α (k + i), x0)) (hi : i + 1 < N0) (hcc : cells = i) {atype : ArrayType} {ty : FieldType} (hty : newarray.typeOf atype = ty) (hno : ∀ C, ty ≠ .object C) (harr : Cond.arrayClass ty ∈ lw_all) (t0 : Nat) {cT : ClassId} (ht : (gTys D)[t0]? = some (cT, ty)) {n : Int32} {N' : Nat} {a0 : vp_A} (ha : ∀ cA : ClassId, vp_cell cA a0 = arrV cA N' (fun _ => defaultValue ty)) (hn : ¬ n < 0) (hN : n.toNatClampNeg = N') (hbytes : N' * componentBytes ty ≤ 536870912) (hcells : cells + 1 ≤ R.cells) (hslots : slots + N' ≤ R.slots) (hE : E ++ [(α (k + (i + 1)), .inl (cT, a0))] = E') (hdg : decode cc pc = .ok (.newarray atype, 2))
    (kk : ∀ (H1 : Heap), va_P D vwCl (w0 ++ E') H1 → va_D A (w0 ++ E') → va_S A H0 H1 locs → W p l e R s m args below meth c H1 locs (cells + 1) (slots + N') Q (F0 m (pc + 2) ls (.ref (α (k + (i + 1))) :: rest))) : W p l e R s m args below meth c H locs cells slots Q (F0 m pc ls (.int n :: rest)) := by
  refine n_size hsz hP hk hα he (Nat.lt_of_succ_lt hi) hcc (fun hz => ?_)
  refine g_newa S hK hP hD hS (hA _ (by omega)) hty hno harr t0 ht ha hn hN hbytes hcells hslots hdg (fun H1 z1 hP1 hD1 hS1 => ?_)
  have hw := ap_new (w0 := w0) (x := .inl (cT, a0)) hα hz hi hE
  rw [hw] at hP1 hD1
  have h := kk H1 hP1 hD1 hS1
  rw [hα _ hi, ← hz] at h
  exact h
theorem n_putF (S : CallFix p m c cc nL s args lw_all own) (hin2 : meth.name = "<init>") (hK : va_K D vwCl (gTys D) s) (hP : va_P D vwCl (w0 ++ E) H) (hD : va_D A (w0 ++ E)) (hS : va_S A H0 H locs) (hk : w0.length = k) {q a' ci N index : Nat} {fs : List Value} {C : String} {T : u_T} (he : E[q]? = some (a', .inr (ci, fs))) (hc : vwCl[ci]? = some (C, T, N)) (hin : ∀ w ∈ u_ws C T N, w ∈ lw_all) {ty0 : Nat → FieldType} (hty : ∀ k, k < N → parseFieldDescriptor (T k).2.2.1 = some (ty0 k)) (hnm : ∀ a, a < N → ∀ b, b < N → a ≠ b → (T a).2.1 ≠ (T b).2.1) (f : Nat) (hf : f < N) (hl : Cond.fieldLink own index (T f).1 (T f).2.1 (T f).2.2.1 ∈ lw_all) (hfin : (T f).2.2.2 = true) (hdecl : (T f).1 = own) {v : Value} (hn : narrow (ty0 f) v = v) (hfit : fits (ty0 f) v = true) (hlen : f < fs.length) (hE : E.set q (a', .inr (ci, fs.set f v)) = E') (hdg : decode cc pc = .ok (.putfield index, 3))
    (kk : ∀ (H1 : Heap) (locs1 : List Loc), va_P D vwCl (w0 ++ E') H1 → va_D A (w0 ++ E') → va_S A H0 H1 locs1 → W p l e R s m args below meth c H1 locs1 cells slots Q (F0 m (pc + 3) ls rest)) : W p l e R s m args below meth c H locs cells slots Q (F0 m pc ls (v :: .ref a' :: rest)) := by
  refine g_putF S hin2 hK hP hD hS (ap_at hk he) hc hin hty hnm f hf hl hfin hdecl hn hfit hlen hdg (fun w1 H1 locs1 hw hP1 hD1 hS1 => ?_)
  have h := ap_set hk hw hE
  subst h
  exact kk H1 locs1 hP1 hD1 hS1
theorem n_objInit (S : CallFix p m c cc nL s args lw_all own) (hls : ls.size = nL) {idx : Nat} (hlink : Cond.methodLink own idx Lib.objectInit ∈ lw_all) (hinst : Cond.instanceMethod Lib.objectInit ∈ lw_all) (hcode : Cond.code Lib.objectInit ⟨#[0xb1]⟩ 1 none ∈ lw_all) (hd : decode cc pc = .ok (.invokespecial idx, 3)) (hframes : 1 ≤ R.frames) (hlocals : 12 ≤ R.locals) {q : Addr}
    (kk : W p l e R s m args below meth c H locs cells slots Q (F0 m (pc + 3) ls [])) : W p l e R s m args below meth c H locs cells slots Q (F0 m pc ls [.ref q]) :=
  W.objInit S.1 S.2.1 S.2.2.2.1 (S.2.2.2.2 _ hlink) (S.2.2.2.2 _ hinst) (S.2.2.2.2 _ hcode) rfl (hls.trans S.2.2.1.symm) rfl hd hframes (by simpa using hlocals) kk
end GM
