/-! making objects: every address is known, for nothing else is made in the run -/
def gPreN (D : va_G) (A : Nat → Prop) (av : List Value) (ws : va_W) (n : Nat) : Array Value → State → Prop := va_Pc av (fun U => (va_P D vwCl ws U.heap ∧ va_K D vwCl (gTys D) U ∧ va_D A ws ∧ EV D A U U.heap) ∧ U.heap.size = n)
def gQN (D : va_G) (A : Nat → Prop) (ws : va_W) (n : Nat) : Array Value → State → Outcome → State → Prop := fun _ st oc t => (oc = .returned none ∧ (va_P D vwCl ws t.heap ∧ va_D A ws) ∧ t.heap.size = n) ∧ va_F A st t
theorem gPreN.blind {D : va_G} {A : Nat → Prop} {av : List Value} {ws : va_W} {n : Nat} : FrameBlind (gPreN D A av ws n) := by
  intro a U g mk h
  obtain ⟨h0, ⟨h1, h2, h3, h4⟩, h5⟩ := h
  exact ⟨h0, ⟨h1, va_K.moved (u := U) (U := U.calling g mk a) (Vm.Alike.refl U.vm) h2, h3, EV.same (s := U) h4 rfl⟩, h5⟩
section GN
variable {p : Program} {l : Launch} {e : Env} {R : Room} {s : State} {m : MethodId} {args : Array Value} {below : List Frame} {meth : Method} {c : Code} {H : Heap} {locs : List Loc} {cells slots : Nat} {Q : State → Prop}
variable {cc : ByteArray} {nL pc : Nat} {ls : Array Slot} {rest : List Value} {D : va_G} {A : Nat → Prop} {ws : va_W} {own : String} {H0 : Heap}
theorem g_preN {av : List Value} {n : Nat} (hK : va_K D vwCl (gTys D) s) (hP : va_P D vwCl ws H) (hD : va_D A ws) (hE : EV D A s s.heap) (hS : va_S A s.heap H locs) (hn : H.size = n) : ∀ U : State, U.heap = H → s.WarmedH U.vm → gPreN D A av ws n av.toArray U :=
  fun U hU hW => ⟨rfl, ⟨by rw [hU]; exact hP, va_K.moved hW.alike hK, hD, by rw [hU]; exact hE.warm hW hS⟩, by rw [hU]; exact hn⟩
/-- a new object -/
theorem g_new (S : CallFix p m c cc nL s args lw_all own) (hK : va_K D vwCl (gTys D) s) (hP : va_P D vwCl ws H) (hD : va_D A ws) (hS : va_S A H0 H locs) (hA : A H.size) {ci index N : Nat} {C : String} {T : u_T} {ty0 : Nat → FieldType} {fs : List Value} (hin : ∀ w ∈ u_ws C T N, w ∈ lw_all) (hty : ∀ k, k < N → parseFieldDescriptor (T k).2.2.1 = some (ty0 k)) (hc : vwCl[ci]? = some (C, T, N)) (hcl : Cond.classLink own index C ∈ lw_all) (hinst : Cond.instantiable C N ∈ lw_all) (hini : Cond.initialized C ∈ lw_all) (hfs : ∀ j, j < N → defaultValue (ty0 j) = vp_V fs j) (hcells : cells + 1 ≤ R.cells) (hslots : slots + N ≤ R.slots) (hdg : decode cc pc = .ok (.new index, 3))
    (kk : ∀ (H1 : Heap), H1.size = H.size + 1 → va_P D vwCl (ws ++ [(H.size, .inr (ci, fs))]) H1 → va_D A (ws ++ [(H.size, .inr (ci, fs))]) → va_S A H0 H1 locs → W p l e R s m args below meth c H1 locs (cells + 1) (slots + N) Q (F0 m (pc + 3) ls (.ref H.size :: rest))) : W p l e R s m args below meth c H locs cells slots Q (F0 m pc ls rest) := by
  have hts := S.2.2.2.2
  have hKn := hK.1 ci _ hc
  refine W.newcK S.1 S.2.1 S.2.2.2.1 (hts _ hcl) (hts _ hinst) (hts _ hini) rfl hdg hcells hslots hKn.2.1 rfl fun H1 kC hkC e1 z1 o1 => ?_
  have keep : ∀ (k : Nat) (x : Nat × va_E), ws[k]? = some x → H1[x.1]? = H[x.1]? := fun k x hx => o1 x.1 ((hP k x hx).lt)
  have one : va_P D vwCl [(H.size, .inr (ci, fs))] H1 := by
    intro k x hx
    have hz : k = 0 := by have := (List.getElem?_eq_some_iff.mp hx).1; simp only [List.length_singleton] at this; omega
    subst hz
    cases hx
    exact ⟨_, hc, (u_born ty0 hts hin hKn hkC e1 hty).to hfs⟩
  exact kk H1 z1 ((hP.kept keep).app one) (hD.push hP rfl hA) ⟨Nat.le_trans hS.1 (by omega), fun x h1 h2 => (o1 x (Nat.lt_of_lt_of_le h1 hS.1)).trans (hS.2.1 x h1 h2), hS.2.2⟩
/-- a new array of numbers -/
theorem g_newa (S : CallFix p m c cc nL s args lw_all own) (hK : va_K D vwCl (gTys D) s) (hP : va_P D vwCl ws H) (hD : va_D A ws) (hS : va_S A H0 H locs) (hA : A H.size) {atype : ArrayType} {ty : FieldType} (hty : newarray.typeOf atype = ty) (hno : ∀ C, ty ≠ .object C) (harr : Cond.arrayClass ty ∈ lw_all) (t0 : Nat) {cT : ClassId} (ht : (gTys D)[t0]? = some (cT, ty)) {n : Int32} {N' : Nat} {a0 : vp_A} (ha : ∀ cA : ClassId, vp_cell cA a0 = arrV cA N' (fun _ => defaultValue ty)) (hn : ¬ n < 0) (hN : n.toNatClampNeg = N') (hbytes : N' * componentBytes ty ≤ 536870912) (hcells : cells + 1 ≤ R.cells) (hslots : slots + N' ≤ R.slots) (hdg : decode cc pc = .ok (.newarray atype, 2))
    (kk : ∀ (H1 : Heap), H1.size = H.size + 1 → va_P D vwCl (ws ++ [(H.size, .inl (cT, a0))]) H1 → va_D A (ws ++ [(H.size, .inl (cT, a0))]) → va_S A H0 H1 locs → W p l e R s m args below meth c H1 locs (cells + 1) (slots + N') Q (F0 m (pc + 2) ls (.ref H.size :: rest))) : W p l e R s m args below meth c H locs cells slots Q (F0 m pc ls (.int n :: rest)) := by
  have hts := S.2.2.2.2
  subst hty
  refine va_newaK S.1 S.2.1 (hts _ harr) rfl hdg rfl hn hN hbytes hcells hslots rfl fun H1 cA e1 z1 o1 _ hNm => ?_
  have hcA : cA = cT := by
    have h := (hK.2 t0 _ ht).2
    have h2 : s.vm.findClass ("[" ++ (newarray.typeOf atype).toString) = some cT := by
      cases atype <;> exact h
    exact Option.some.inj (hNm.symm.trans h2)
  subst hcA
  have keep : ∀ (k : Nat) (x : Nat × va_E), ws[k]? = some x → H1[x.1]? = H[x.1]? := fun k x hx => o1 x.1 ((hP k x hx).lt)
  have one : va_P D vwCl [(H.size, .inl (cA, a0))] H1 := by
    intro k x hx
    have hz : k = 0 := by have := (List.getElem?_eq_some_iff.mp hx).1; simp only [List.length_singleton] at this; omega
    subst hz
    cases hx
    show H1[H.size]? = some (vp_cell _ _)
    rw [ha]
    exact e1
  exact kk H1 z1 ((hP.kept keep).app one) (hD.push hP rfl hA) ⟨Nat.le_trans hS.1 (by omega), fun x h1 h2 => (o1 x (Nat.lt_of_lt_of_le h1 hS.1)).trans (hS.2.1 x h1 h2), hS.2.2⟩
/-- a new array of states -/
theorem g_newq (S : CallFix p m c cc nL s args lw_all own) (hK : va_K D vwCl (gTys D) s) (hP : va_P D vwCl ws H) (hD : va_D A ws) (hE : EV D A s s.heap) (hS : va_S A H0 H locs) (hA : A H.size) {index : Nat} (hcl : Cond.classLink own index "StickVotes$State" ∈ lw_all) {n : Int32} {N' : Nat} (hn : ¬ n < 0) (hN : n.toNatClampNeg = N') (hbytes : N' * 4 ≤ 536870912) (hcells : cells + 1 ≤ R.cells) (hslots : slots + N' ≤ R.slots) (hdg : decode cc pc = .ok (.anewarray index, 3))
    (kk : ∀ (H1 : Heap), H1.size = H.size + 1 → va_P D vwCl (ws ++ [(H.size, .inl (D.1 103, N', .inr (.inr (.inr (.inr (fun _ => none))))))]) H1 → va_D A (ws ++ [(H.size, .inl (D.1 103, N', .inr (.inr (.inr (.inr (fun _ => none))))))]) → va_S A H0 H1 locs → W p l e R s m args below meth c H1 locs (cells + 1) (slots + N') Q (F0 m (pc + 3) ls (.ref H.size :: rest))) : W p l e R s m args below meth c H locs cells slots Q (F0 m pc ls (.int n :: rest)) := by
  have hts := S.2.2.2.2
  subst hN
  refine W.anew S.1 S.2.1 S.2.2.2.1 (hts _ hcl) (va_AO.use hE.2.1) rfl hdg rfl hn hbytes hcells hslots fun cA kA comp f1 f2 f3 f4 => ?_
  have hcA : cA = D.1 103 := by
    obtain ⟨_, _, _, _, _, h⟩ := (hK.2 3 _ rfl).2
    exact Option.some.inj (f1.symm.trans h)
  subst hcA
  generalize hH1 : H.push ({ cls := D.1 103, slots := Array.replicate n.toNatClampNeg .null, vm := .none } : Cell) = H1
  have z1 : H1.size = H.size + 1 := by rw [← hH1, Array.size_push]
  have e1 : H1[H.size]? = some (arrV (D.1 103) n.toNatClampNeg (fun _ => .null)) := by rw [← hH1, Array.getElem?_push_size, ← arrV_new]
  have o1 : ∀ q : Nat, q < H.size → H1[q]? = H[q]? := fun q hq => by rw [← hH1, Array.getElem?_push, if_neg (Nat.ne_of_lt hq)]
  have keep : ∀ (k : Nat) (x : Nat × va_E), ws[k]? = some x → H1[x.1]? = H[x.1]? := fun k x hx => o1 x.1 ((hP k x hx).lt)
  have one : va_P D vwCl [(H.size, .inl (D.1 103, n.toNatClampNeg, .inr (.inr (.inr (.inr (fun _ => none))))))] H1 := by
    intro k x hx
    have hz : k = 0 := by have := (List.getElem?_eq_some_iff.mp hx).1; simp only [List.length_singleton] at this; omega
    subst hz
    cases hx
    show H1[H.size]? = some (vp_cell _ _)
    rw [vp_cell_q]
    exact e1
  exact kk H1 z1 ((hP.kept keep).app one) (hD.push hP rfl hA) ⟨Nat.le_trans hS.1 (by omega), fun x h1 h2 => (o1 x (Nat.lt_of_lt_of_le h1 hS.1)).trans (hS.2.1 x h1 h2), hS.2.2⟩
/-- the end of a constructor -/
theorem g_nret (S : CallFix p m c cc nL s args lw_all own) (hr : meth.sig.returnType = none) (hlk : meth.locks = false) (hP : va_P D vwCl ws H) (hD : va_D A ws) (hS : va_S A s.heap H locs) {w1 : va_W} {n : Nat} (hw : ws = w1) (hz : H.size = n) (hdg : decode cc pc = .ok (.return_, 1)) :
    W p l e R s m args below meth c H locs cells slots (MQ below (gQN D A w1 n) args s cells slots A) (F0 m pc ls []) := by
  subst hw
  exact W.vret S.1 S.2.1 hr (fun t ht _ => ⟨⟨rfl, ⟨by rw [ht]; exact hP, hD⟩, by rw [ht]; exact hz⟩, hS.F ht⟩) hS.2.2 hdg hlk
/-- behind a constructor -/
theorem g_aftN {w1 : va_W} {n : Nat} {a : Array Value} {st0 : List Value} {mc ms : Nat} (hr : va_Run p l e R s m args below meth c H locs cells slots mc ms (F0 m pc ls st0) rest (gQN D A w1 n a) A) (hS : va_S A H0 H locs)
    (kk : ∀ (H1 : Heap) (locs1 : List Loc), H1.size = n → va_P D vwCl w1 H1 → va_D A w1 → va_S A H0 H1 locs1 → W p l e R s m args below meth c H1 locs1 (cells + mc) (slots + ms) Q (F0 m (pc + 3) ls rest)) : W p l e R s m args below meth c H locs cells slots Q (F0 m pc ls st0) := by
  intro T hT X
  obtain ⟨v, st₀, t, T', L, h0, X', hL, e1, e2, ⟨⟨hv, ⟨hP, hD⟩, hsz⟩, hz, hk⟩, st⟩ := hr T hT X
  cases hv
  rw [h0] at hz hk
  obtain ⟨t2, a1, b1⟩ := kk T'.heap (locs ++ L) (by rw [e1]; exact hsz) (by rw [e1]; exact hP) hD
    ⟨Nat.le_trans hS.1 (by rw [e1]; exact hz), fun q h1 h2 => by rw [e1, hk q (Nat.lt_of_lt_of_le h1 hS.1) h2]; exact hS.2.1 q h1 h2, fun q hq => by
      rcases List.mem_append.mp hq with h | h
      · exact hS.2.2 q h
      · exact hL q h⟩ T' rfl X'
  exact ⟨t2, st t2 a1, b1⟩
variable {y : MethodName} {bytes : ByteArray} {maxL n index b mc ms sz : Nat} {rm : Room} {As : List Value} {Qc : Array Value → State → Outcome → State → Prop} {st0 : List Value}
theorem g_Nc (S : CallFix p m c cc nL s args lw_all own) (I : MC y bytes maxL n) (L : Cond.methodLink own index y ∈ lw_all)
    (hM : Met l y (ws_ y bytes maxL none) rm (gPreN D A (.ref b :: As) ws sz) Qc mc ms A) (hK : va_K D vwCl (gTys D) s) (hP : va_P D vwCl ws H) (hD : va_D A ws) (hE : EV D A s s.heap) (hS : va_S A s.heap H locs) (hsz : H.size = sz)
    (hst : st0 = As.reverse ++ .ref b :: rest) (hn : As.length = n) (hls : ls.size = nL) (hW : (rest.map fun v => v.category).sum ≤ 8)
    (hrc : rm.cells = mc) (hrs : rm.slots = ms) (hR : rm.frames + 1 ≤ R.frames ∧ 8 + (maxL + 11) + rm.locals ≤ R.locals) (hf : cells + mc ≤ R.cells ∧ slots + ms ≤ R.slots) (hdg : decode cc pc = .ok (.invokespecial index, 3)) :
    va_Run p l e R s m args below meth c H locs cells slots mc ms (F0 m pc ls st0) rest (Qc (Value.ref b :: As).toArray) A := by
  obtain ⟨i1, i3, i4, i5, i6⟩ := I
  have hts := S.2.2.2.2
  exact va_runI (As := As) (rest := rest) (index := index) (n := n) S hM (cwI n hts (ws_good i4) rfl hrc hrs (hts _ i3) (hts _ L) (hts _ i1) i5 i6 hR) ⟨gPreN.blind, g_preN hK hP hD hE hS hsz⟩ rfl hn hls hst (lv_room hW) hdg hf
theorem g_NcN (S : CallFix p m c cc nL s args lw_all own) (I : MC y bytes maxL n) {host : String} (L : (own, index, y, host) ∈ nestW)
    (hM : Met l y (ws_ y bytes maxL none) rm (gPreN D A (.ref b :: As) ws sz) Qc mc ms A) (hK : va_K D vwCl (gTys D) s) (hP : va_P D vwCl ws H) (hD : va_D A ws) (hE : EV D A s s.heap) (hS : va_S A s.heap H locs) (hsz : H.size = sz)
    (hst : st0 = As.reverse ++ .ref b :: rest) (hn : As.length = n) (hls : ls.size = nL) (hW : (rest.map fun v => v.category).sum ≤ 8)
    (hrc : rm.cells = mc) (hrs : rm.slots = ms) (hR : rm.frames + 1 ≤ R.frames ∧ 8 + (maxL + 11) + rm.locals ≤ R.locals) (hf : cells + mc ≤ R.cells ∧ slots + ms ≤ R.slots) (hdg : decode cc pc = .ok (.invokespecial index, 3)) :
    va_Run p l e R s m args below meth c H locs cells slots mc ms (F0 m pc ls st0) rest (Qc (Value.ref b :: As).toArray) A := by
  obtain ⟨i1, i3, i4, i5, i6⟩ := I
  have hts := S.2.2.2.2
  exact va_runIN (As := As) (rest := rest) (index := index) (n := n) (host := host) S hM ⟨va_cnB n hts (ws_good i4) rfl hrc hrs (hE.1 _ L) (hts _ i3) i6 hR, i5, hts _ i1⟩ ⟨gPreN.blind, g_preN hK hP hD hE hS hsz⟩ rfl hn hls hst (lv_room hW) hdg hf
end GN
theorem g_metN {l : Launch} {y : MethodName} {cc : ByteArray} {maxL mc ms n : Nat} {rm : Room} {D : va_G} {A : Nat → Prop} {av : List Value} {ws : va_W} {Qc : Array Value → State → Outcome → State → Prop} (lv : List (Nat × Value)) (hy : plainFor y = true) (hlen : (lg_sl av).length ≤ maxL) (hlv : lv_args 0 av = lv)
    (body : ∀ (p : Program) (e : Env) (s : State) (m : MethodId) (args : Array Value) (below : List Frame) (meth : Method) (c : Code) (ls : Array Slot), CallFix p m c cc maxL s args lw_all y.cls → va_K D vwCl (gTys D) s → va_P D vwCl ws s.heap → va_D A ws → EV D A s s.heap → va_S A s.heap s.heap [] → s.heap.size = n → meth.sig.returnType = none → meth.locks = false → meth.name = y.name → lv_has ls maxL lv →
      W p l e rm s m args below meth c s.heap [] 0 0 (MQ below Qc args s mc ms A) (F0 m 0 ls [])) : Met l y (ws_ y cc maxL none) rm (gPreN D A av ws n) Qc mc ms A := by
  refine va_MetF (cc := cc) (maxL := maxL) (ret := none) hy rfl ?_
  intro p e s m args below meth c s₁ B hml hv
  obtain ⟨rfl, ⟨hP, hK, hD, hE⟩, hz⟩ := hv
  have hts0 := atoms_spec (ws := ws_ y cc maxL none) B.pre
  have hts : ∀ w ∈ lw_all, w.before av.toArray s = true := fun w h => hts0 w (List.mem_cons_of_mem _ h)
  have hl := lv_entry av (n := maxL) hlen
  rw [hlv] at hl
  rw [lg_entry_eq]
  exact body p e s m _ below meth c _ ⟨B.exec, B.bytes, hml, findClass_of_methodNamed B.named, hts⟩ hK hP hD hE va_S.rf hz B.returns B.notSynchronized (name_of_methodNamed B.named B.method).1 hl
/-! lists that grow at their end -/
theorem ap_at {w0 L : va_W} {k i : Nat} {x : Nat × va_E} (hk : w0.length = k) (h : L[i]? = some x) : (w0 ++ L)[k + i]? = some x := by
  subst hk
  rw [List.getElem?_append_right (by omega), show w0.length + i - w0.length = i by omega]
  exact h
theorem ap_set {w0 L L' w : va_W} {k i : Nat} {x : Nat × va_E} (hk : w0.length = k) (hw : w = (w0 ++ L).set (k + i) x) (hL : L.set i x = L') : w = w0 ++ L' := by
  subst hk; subst hL; subst hw
  rw [List.set_append_right _ _ (by omega), show w0.length + i - w0.length = i by omega]
theorem ap_len {w0 L : va_W} {k n : Nat} (hk : w0.length = k) (hn : L.length = n) : (w0 ++ L).length = k + n := by rw [List.length_append, hk, hn]
