/-! THE LAW's LAYER: texts that nobody writes, calls whose cells are part of the caller's, facts beside the world -/
theorem Met.mono {l : Launch} {y : MethodName} {ws : List Cond} {rm : Room} {Pc Pc' : Array Value → State → Prop} {Qc Qc' : Array Value → State → Outcome → State → Prop} {mc ms : Nat} {free : Addr → Prop} (h : Met l y ws rm Pc Qc mc ms free) (hp : ∀ a U, Pc' a U → Pc a U) (hq : ∀ a st o t, Pc' a st → Qc a st o t → Qc' a st o t) : Met l y ws rm Pc' Qc' mc ms free := by
  intro p e ha hc hk s m args below hf happ hP hK
  obtain ⟨n, o, h1, h2, h3, h4, h5⟩ := h p e ha hc hk s m args below hf happ (hp _ _ hP) hK
  exact ⟨n, o, h1, h2, h3, hq _ _ _ _ hP h4, h5⟩
theorem MetD.mono {cs : List Choice} {l : Launch} {y : MethodName} {ws : List Cond} {rm : Room} {Pc Pc' : Array Value → State → Prop} {Qc Qc' : Array Value → State → Outcome → State → Prop} {mc ms : Nat} {free : Addr → Prop} (h : MetD cs l y ws rm Pc Qc mc ms free) (hp : ∀ a U, Pc' a U → Pc a U) (hq : ∀ a st o t d, Pc' a st → Qc a (st.setDrawn d) o t → Qc' a (st.setDrawn d) o t) : MetD cs l y ws rm Pc' Qc' mc ms free := by
  intro p e ha hc hk s m args below hf happ hP hK
  obtain ⟨n, o, h1, h2, h3, d, h4, h5, h6⟩ := h p e ha hc hk s m args below hf happ (hp _ _ hP) hK
  exact ⟨n, o, h1, h2, h3, d, h4, hq _ _ _ _ _ hP h5, h6⟩
/-- a String of n Latin-1 bytes b, its bytes at v; nobody writes it -/
def Tx (A : Nat → Prop) (U : State) (H : Heap) (a v n : Nat) (b : Nat → Int32) : Prop :=
  va_O "java/lang/String" a A U H ∧ va_OF "java/lang/String" "coder" "B" (.int 0) a A U H ∧ va_OF "java/lang/String" "value" "[B" (.ref v) a A U H ∧ va_T .byte v n (fun j => .int (b j)) A U H
theorem Tx.moved {A : Nat → Prop} {u U : State} {H : Heap} {a v n : Nat} {b : Nat → Int32} (hvm : u.vm.Alike U.vm) (h : Tx A u H a v n b) : Tx A U H a v n b :=
  ⟨va_O.moved hvm h.1, va_OF.moved hvm h.2.1, va_OF.moved hvm h.2.2.1, va_T.moved hvm h.2.2.2⟩
theorem Tx.kept {A : Nat → Prop} {U : State} {H H1 : Heap} {a v n : Nat} {b : Nat → Int32} (h : Tx A U H a v n b) (hq : ∀ a : Nat, a < H.size → ¬ A a → H1[a]? = H[a]?) : Tx A U H1 a v n b :=
  ⟨h.1.kept hq, h.2.1.kept hq, h.2.2.1.kept hq, h.2.2.2.kept hq⟩
theorem Tx.narrow {A B : Nat → Prop} {U : State} {H : Heap} {a v n : Nat} {b : Nat → Int32} (h : Tx A U H a v n b) (hAB : ∀ q, B q → A q) : Tx B U H a v n b :=
  ⟨h.1.narrow hAB, h.2.1.narrow hAB, h.2.2.1.narrow hAB, h.2.2.2.narrow hAB⟩
theorem EV.narrow {D : va_G} {A B : Nat → Prop} {U : State} {H : Heap} (h : EV D A U H) (hAB : ∀ q, B q → A q) : EV D B U H := by
  obtain ⟨h1, h2, h3, h4, h5, h6⟩ := h
  exact ⟨h1, h2, h3, h4.narrow hAB, h5.narrow hAB, h6.narrow hAB⟩
theorem EV.kept {D : va_G} {A : Nat → Prop} {U : State} {H H1 : Heap} (h : EV D A U H) (hq : ∀ a : Nat, a < H.size → ¬ A a → H1[a]? = H[a]?) : EV D A U H1 := by
  obtain ⟨h1, h2, h3, h4, h5, h6⟩ := h
  exact ⟨h1, h2, h3, h4.kept hq, h5.kept hq, h6.kept hq⟩
/-- what is beside A may be cells that come -/
def Gr (A : Nat → Prop) (n : Nat) : Nat → Prop := fun q => A q ∨ n ≤ q
theorem va_O.grow {E : String} {t : Nat} {A : Nat → Prop} {U : State} {H : Heap} (h : va_O E t A U H) : va_O E t (Gr A H.size) U H := by
  obtain ⟨cell, h1, h2, h3, h4⟩ := h
  exact ⟨cell, h1, h2, h3, fun z => z.elim h4 (fun z => Nat.not_le.mpr (Array.getElem?_eq_some_iff.mp h1).1 z)⟩
theorem va_OF.grow {o n d : String} {v : Value} {t : Nat} {A : Nat → Prop} {U : State} {H : Heap} (h : va_OF o n d v t A U H) : va_OF o n d v t (Gr A H.size) U H := by
  obtain ⟨cf, k, i, f, cell, h1, h2, h3, h4, h5, h6⟩ := h
  exact ⟨cf, k, i, f, cell, h1, h2, h3, h4, h5, fun z => z.elim h6 (fun z => Nat.not_le.mpr (Array.getElem?_eq_some_iff.mp h3).1 z)⟩
theorem va_T.grow {ty : FieldType} {t N : Nat} {f : Nat → Value} {A : Nat → Prop} {U : State} {H : Heap} (h : va_T ty t N f A U H) : va_T ty t N f (Gr A H.size) U H := by
  obtain ⟨cell, h1, h2, h3, h4, h5, h6, h7⟩ := h
  exact ⟨cell, h1, h2, h3, h4, h5, h6, fun z => z.elim h7 (fun z => Nat.not_le.mpr (Array.getElem?_eq_some_iff.mp h1).1 z)⟩
theorem va_Z.grow {C n d : String} {v : Value} {A : Nat → Prop} {U : State} {H : Heap} (h : va_Z C n d v A U H) : va_Z C n d v (Gr A H.size) U H := by
  obtain ⟨cf, kf, fi, f, a, cell, h1, h2, h3, h4, h5, h6, h7, h8⟩ := h
  exact ⟨cf, kf, fi, f, a, cell, h1, h2, h3, h4, h5, h6, h7, fun z => z.elim h8 (fun z => Nat.not_le.mpr (Array.getElem?_eq_some_iff.mp h5).1 z)⟩
theorem va_Zq.grow {C n d : String} {A : Nat → Prop} {U : State} {H : Heap} (h : va_Zq C n d A U H) : va_Zq C n d (Gr A H.size) U H := by
  rcases h with h | ⟨t, h⟩
  · exact Or.inl h.grow
  · exact Or.inr ⟨t, h.grow⟩
theorem Tx.grow {A : Nat → Prop} {U : State} {H : Heap} {a v n : Nat} {b : Nat → Int32} (h : Tx A U H a v n b) : Tx (Gr A H.size) U H a v n b := ⟨h.1.grow, h.2.1.grow, h.2.2.1.grow, h.2.2.2.grow⟩
theorem vk_S.grow {N : Nat} {len : List Nat} {byt : List (List Int32)} {adK adV : Nat → Nat} {A : Nat → Prop} {U : State} {H : Heap} (h : vk_S N len byt adK adV A U H) : vk_S N len byt adK adV (Gr A H.size) U H :=
  ⟨fun i hi => ⟨(h.1 i hi).1.grow, (h.1 i hi).2.1.grow, (h.1 i hi).2.2.1.grow, (h.1 i hi).2.2.2.grow⟩, h.2⟩
theorem EV.grow {D : va_G} {A : Nat → Prop} {U : State} {H : Heap} (h : EV D A U H) : EV D (Gr A H.size) U H := by
  obtain ⟨h1, h2, h3, h4, h5, h6⟩ := h
  exact ⟨h1, h2, h3, h4.grow, h5.grow, h6.grow⟩
/-- a text constant is such a text -/
theorem EV.tx {D : va_G} {A : Nat → Prop} {U : State} {H : Heap} (h : EV D A U H) {i : Nat} (hi : i < strLen.length) : Tx A U H (D.2 200 i) (D.2 201 i) (strLen.getD i 0) (fun j => (strByt.getD i []).getD j 0) := h.2.2.2.1.1 i hi
/-- facts beside the world -/
def stX (X : State → Heap → Prop) : Prop := ∀ (u U : State) (H : Heap), u.vm.Alike U.vm → X u H → X U H
def gPx (D : va_G) (A : Nat → Prop) (av : List Value) (ws : va_W) (X : State → Heap → Prop) : Array Value → State → Prop := va_Pc av (fun U => (va_P D vwCl ws U.heap ∧ va_K D vwCl (gTys D) U ∧ va_D A ws ∧ EV D A U U.heap) ∧ X U U.heap)
theorem gPx.blind {D : va_G} {A : Nat → Prop} {av : List Value} {ws : va_W} {X : State → Heap → Prop} (hX : stX X) : FrameBlind (gPx D A av ws X) := by
  intro a U g mk h
  obtain ⟨h0, ⟨h1, h2, h3, h4⟩, h5⟩ := h
  exact ⟨h0, ⟨h1, va_K.moved (u := U) (U := U.calling g mk a) (Vm.Alike.refl U.vm) h2, h3, EV.same (s := U) h4 rfl⟩, hX U _ _ (Vm.Alike.refl U.vm) h5⟩
/-- a method's end: its answer and the heaps ahead and behind; nothing outside A has changed -/
def gG (A : Nat → Prop) (Qp : Option Value → Heap → Heap → Prop) : Array Value → State → Outcome → State → Prop := fun _ st oc t => (∃ v : Option Value, oc = .returned v ∧ Qp v st.heap t.heap) ∧ va_F A st t
theorem g_metX {l : Launch} {y : MethodName} {cc : ByteArray} {maxL mc ms : Nat} {ret : Option FieldType} {rm : Room} {D : va_G} {A : Nat → Prop} {av : List Value} {ws : va_W} {X : State → Heap → Prop} {Qc : Array Value → State → Outcome → State → Prop} (lv : List (Nat × Value)) (hy : plainFor y = true) (hlen : (lg_sl av).length ≤ maxL) (hlv : lv_args 0 av = lv)
    (body : ∀ (p : Program) (e : Env) (s : State) (m : MethodId) (args : Array Value) (below : List Frame) (meth : Method) (c : Code) (ls : Array Slot), CallFix p m c cc maxL s args lw_all y.cls → va_K D vwCl (gTys D) s → va_P D vwCl ws s.heap → va_D A ws → EV D A s s.heap → va_S A s.heap s.heap [] → X s s.heap → meth.sig.returnType = ret → meth.locks = false → meth.name = y.name → lv_has ls maxL lv →
      W p l e rm s m args below meth c s.heap [] 0 0 (MQ below Qc args s mc ms A) (F0 m 0 ls [])) : Met l y (ws_ y cc maxL ret) rm (gPx D A av ws X) Qc mc ms A := by
  refine va_MetF (cc := cc) (maxL := maxL) (ret := ret) hy rfl ?_
  intro p e s m args below meth c s₁ B hml hv
  obtain ⟨rfl, ⟨hP, hK, hD, hE⟩, hx⟩ := hv
  have hts0 := atoms_spec (ws := ws_ y cc maxL ret) B.pre
  have hts : ∀ w ∈ lw_all, w.before av.toArray s = true := fun w h => hts0 w (List.mem_cons_of_mem _ h)
  have hl := lv_entry av (n := maxL) hlen
  rw [hlv] at hl
  rw [lg_entry_eq]
  exact body p e s m _ below meth c _ ⟨B.exec, B.bytes, hml, findClass_of_methodNamed B.named, hts⟩ hK hP hD hE va_S.rf hx B.returns B.notSynchronized (name_of_methodNamed B.named B.method).1 hl
/-! ends of a method with gG -/
section GGE
variable {p : Program} {l : Launch} {e : Env} {R : Room} {s : State} {m : MethodId} {args : Array Value} {below : List Frame} {meth : Method} {c : Code} {H : Heap} {locs : List Loc} {cells slots mc ms : Nat}
variable {cc : ByteArray} {nL pc : Nat} {ls : Array Slot} {A : Nat → Prop} {own : String} {Qp : Option Value → Heap → Heap → Prop}
theorem x_iret (S : CallFix p m c cc nL s args lw_all own) (hr : meth.sig.returnType = some .int) (hlk : meth.locks = false) (hS : va_S A s.heap H locs) {v : Int32} (hq : Qp (some (.int v)) s.heap H) (hdg : decode cc pc = .ok (.ireturn, 1)) :
    W p l e R s m args below meth c H locs cells slots (MQ below (gG A Qp) args s cells slots A) (F0 m pc ls [.int v]) :=
  W.iret S.1 S.2.1 hr (fun t ht _ => ⟨⟨_, rfl, by rw [ht]; exact hq⟩, hS.F ht⟩) hS.2.2 hdg hlk
theorem x_nret (S : CallFix p m c cc nL s args lw_all own) {ty : FieldType} (hr : meth.sig.returnType = some ty) (hlk : meth.locks = false) (hS : va_S A s.heap H locs) {v : Int32} (hn : narrow ty (.int v) = .int v) (hq : Qp (some (.int v)) s.heap H) (hdg : decode cc pc = .ok (.ireturn, 1)) :
    W p l e R s m args below meth c H locs cells slots (MQ below (gG A Qp) args s cells slots A) (F0 m pc ls [.int v]) :=
  W.zret S.1 S.2.1 hr hn (fun t ht _ => ⟨⟨_, rfl, by rw [ht]; exact hq⟩, hS.F ht⟩) hS.2.2 hdg hlk
theorem x_vret (S : CallFix p m c cc nL s args lw_all own) (hr : meth.sig.returnType = none) (hlk : meth.locks = false) (hS : va_S A s.heap H locs) (hq : Qp none s.heap H) (hdg : decode cc pc = .ok (.return_, 1)) :
    W p l e R s m args below meth c H locs cells slots (MQ below (gG A Qp) args s cells slots A) (F0 m pc ls []) :=
  W.vret S.1 S.2.1 hr (fun t ht _ => ⟨⟨_, rfl, by rw [ht]; exact hq⟩, hS.F ht⟩) hS.2.2 hdg hlk
theorem x_aret (S : CallFix p m c cc nL s args lw_all own) {C : String} (hr : meth.sig.returnType = some (.object C)) (hlk : meth.locks = false) (hS : va_S A s.heap H locs) {a : Nat} (hq : Qp (some (.ref a)) s.heap H) (hdg : decode cc pc = .ok (.areturn, 1)) :
    W p l e R s m args below meth c H locs cells slots (MQ below (gG A Qp) args s cells slots A) (F0 m pc ls [.ref a]) :=
  W.aret S.1 S.2.1 hr (Or.inl ⟨_, rfl⟩) (Or.inr ⟨_, rfl⟩) (fun t ht _ => ⟨⟨_, rfl, by rw [ht]; exact hq⟩, hS.F ht⟩) hS.2.2 hdg hlk
theorem x_baret (S : CallFix p m c cc nL s args lw_all own) {ty : FieldType} (hr : meth.sig.returnType = some (.array ty)) (hlk : meth.locks = false) (hS : va_S A s.heap H locs) {a : Nat} (hq : Qp (some (.ref a)) s.heap H) (hdg : decode cc pc = .ok (.areturn, 1)) :
    W p l e R s m args below meth c H locs cells slots (MQ below (gG A Qp) args s cells slots A) (F0 m pc ls [.ref a]) :=
  W.aret S.1 S.2.1 hr (Or.inr ⟨_, rfl⟩) (Or.inr ⟨_, rfl⟩) (fun t ht _ => ⟨⟨_, rfl, by rw [ht]; exact hq⟩, hS.F ht⟩) hS.2.2 hdg hlk
end GGE
/-! calls: the callee's cells and its own region A1 within the caller's -/
section GXC
variable {p : Program} {l : Launch} {e : Env} {R : Room} {s : State} {m : MethodId} {args : Array Value} {below : List Frame} {meth : Method} {c : Code} {H : Heap} {locs : List Loc} {cells slots : Nat} {Q : State → Prop}
variable {cc : ByteArray} {nL pc : Nat} {ls : Array Slot} {rest : List Value} {D : va_G} {A A1 : Nat → Prop} {ws : va_W} {own : String} {H0 : Heap}
variable {y : MethodName} {bytes : ByteArray} {maxL n index b mc ms : Nat} {C : String} {ret : Option FieldType} {rm : Room} {As : List Value} {Qc : Array Value → State → Outcome → State → Prop} {st0 : List Value} {X : State → Heap → Prop}
/-- what a callee may take, at this heap -/
theorem x_pre {av : List Value} (hX : stX X) (hK : va_K D vwCl (gTys D) s) (hP : va_P D vwCl ws H) (hD : va_D A1 ws) (hE : EV D A1 s H) (hx : X s H) : ∀ U : State, U.heap = H → s.WarmedH U.vm → gPx D A1 av ws X av.toArray U :=
  fun U hU hW => ⟨rfl, ⟨by rw [hU]; exact hP, va_K.moved hW.alike hK, hD, by rw [hU]; exact hE.warm hW (va_S.rf (A := A1))⟩, by rw [hU]; exact hX _ _ _ hW.alike hx⟩
theorem x_pre0 {av : List Value} (hK : va_K D vwCl (gTys D) s) (hP : va_P D vwCl ws H) (hD : va_D A1 ws) (hE : EV D A1 s H) : ∀ U : State, U.heap = H → s.WarmedH U.vm → gPre D A1 av ws av.toArray U :=
  fun U hU hW => ⟨rfl, by rw [hU]; exact hP, va_K.moved hW.alike hK, hD, by rw [hU]; exact hE.warm hW (va_S.rf (A := A1))⟩
/-- virtual, of a class of ours or the JDK's; the receiver's class is known -/
theorem x_V (S : CallFix p m c cc nL s args lw_all own) (I : MI C y bytes maxL ret n) (L : Cond.methodLink own index y ∈ lw_all)
    (hM : Met l y (ws_ y bytes maxL ret) rm (gPx D A1 (.ref b :: As) ws X) Qc mc ms A1) (hX : stX X) (hK : va_K D vwCl (gTys D) s) (hP : va_P D vwCl ws H) (hD : va_D A1 ws) (hE : EV D A1 s H) (hx : X s H)
    (hr : ∃ cell : Cell, H[b]? = some cell ∧ cell.vm.isStatics = false ∧ s.vm.findClass C = some cell.cls) (hst : st0 = As.reverse ++ .ref b :: rest) (hn : As.length = n) (hls : ls.size = nL) (hW : (rest.map fun v => v.category).sum ≤ 8)
    (hrc : rm.cells = mc) (hrs : rm.slots = ms) (hR : rm.frames + 1 ≤ R.frames ∧ 8 + (maxL + 11) + rm.locals ≤ R.locals) (hf : cells + mc ≤ R.cells ∧ slots + ms ≤ R.slots) (hdg : decode cc pc = .ok (.invokevirtual index, 3)) :
    va_Run p l e R s m args below meth c H locs cells slots mc ms (F0 m pc ls st0) rest (Qc (Value.ref b :: As).toArray) A1 := by
  obtain ⟨i1, i2, i3, i4, i5⟩ := I
  have hts := S.2.2.2.2
  exact va_runV (As := As) (rest := rest) (index := index) (n := n) S hM ⟨callB_of n hts (ws_good i4) rfl hrc hrs (by rw [i5.1]; exact hts _ i3) (hts _ L) i5.2 hR, hts _ i1, hts _ i2⟩ ⟨gPx.blind hX, hr, x_pre hX hK hP hD hE hx⟩ rfl hn hls hst (lv_room hW) hdg hf
/-- the same of a method that asks no more than its world -/
theorem x_V0 (S : CallFix p m c cc nL s args lw_all own) (I : MI C y bytes maxL ret n) (L : Cond.methodLink own index y ∈ lw_all)
    (hM : Met l y (ws_ y bytes maxL ret) rm (gPre D A1 (.ref b :: As) ws) Qc mc ms A1) (hK : va_K D vwCl (gTys D) s) (hP : va_P D vwCl ws H) (hD : va_D A1 ws) (hE : EV D A1 s H)
    (hr : ∃ cell : Cell, H[b]? = some cell ∧ cell.vm.isStatics = false ∧ s.vm.findClass C = some cell.cls) (hst : st0 = As.reverse ++ .ref b :: rest) (hn : As.length = n) (hls : ls.size = nL) (hW : (rest.map fun v => v.category).sum ≤ 8)
    (hrc : rm.cells = mc) (hrs : rm.slots = ms) (hR : rm.frames + 1 ≤ R.frames ∧ 8 + (maxL + 11) + rm.locals ≤ R.locals) (hf : cells + mc ≤ R.cells ∧ slots + ms ≤ R.slots) (hdg : decode cc pc = .ok (.invokevirtual index, 3)) :
    va_Run p l e R s m args below meth c H locs cells slots mc ms (F0 m pc ls st0) rest (Qc (Value.ref b :: As).toArray) A1 := by
  obtain ⟨i1, i2, i3, i4, i5⟩ := I
  have hts := S.2.2.2.2
  exact va_runV (As := As) (rest := rest) (index := index) (n := n) S hM ⟨callB_of n hts (ws_good i4) rfl hrc hrs (by rw [i5.1]; exact hts _ i3) (hts _ L) i5.2 hR, hts _ i1, hts _ i2⟩ ⟨gPre.blind, hr, x_pre0 hK hP hD hE⟩ rfl hn hls hst (lv_room hW) hdg hf
/-- static, by a plain link -/
theorem x_St (S : CallFix p m c cc nL s args lw_all own) (I : MS y bytes maxL ret n) (L : Cond.methodLink own index y ∈ lw_all)
    (hM : Met l y (ws_ y bytes maxL ret) rm (gPx D A1 As ws X) Qc mc ms A1) (hX : stX X) (hK : va_K D vwCl (gTys D) s) (hP : va_P D vwCl ws H) (hD : va_D A1 ws) (hE : EV D A1 s H) (hx : X s H)
    (hst : st0 = As.reverse ++ rest) (hn : As.length = n) (hls : ls.size = nL) (hW : (rest.map fun v => v.category).sum ≤ 8)
    (hrc : rm.cells = mc) (hrs : rm.slots = ms) (hR : rm.frames + 1 ≤ R.frames ∧ 8 + (maxL + 11) + rm.locals ≤ R.locals) (hf : cells + mc ≤ R.cells ∧ slots + ms ≤ R.slots) (hdg : decode cc pc = .ok (.invokestatic index, 3)) :
    va_Run p l e R s m args below meth c H locs cells slots mc ms (F0 m pc ls st0) rest (Qc As.toArray) A1 := by
  obtain ⟨i1, i3, i4, i5⟩ := I
  have hts := S.2.2.2.2
  exact va_runS (As := As) (rest := rest) (index := index) (n := n) S hM ⟨callB_of n hts (ws_good i4) rfl hrc hrs (hts _ i3) (hts _ L) i5 hR, hts _ i1⟩ ⟨gPx.blind hX, x_pre hX hK hP hD hE hx⟩ rfl hn hls hst (lv_room hW) hdg hf
theorem x_St0 (S : CallFix p m c cc nL s args lw_all own) (I : MS y bytes maxL ret n) (L : Cond.methodLink own index y ∈ lw_all)
    (hM : Met l y (ws_ y bytes maxL ret) rm (gPre D A1 As ws) Qc mc ms A1) (hK : va_K D vwCl (gTys D) s) (hP : va_P D vwCl ws H) (hD : va_D A1 ws) (hE : EV D A1 s H)
    (hst : st0 = As.reverse ++ rest) (hn : As.length = n) (hls : ls.size = nL) (hW : (rest.map fun v => v.category).sum ≤ 8)
    (hrc : rm.cells = mc) (hrs : rm.slots = ms) (hR : rm.frames + 1 ≤ R.frames ∧ 8 + (maxL + 11) + rm.locals ≤ R.locals) (hf : cells + mc ≤ R.cells ∧ slots + ms ≤ R.slots) (hdg : decode cc pc = .ok (.invokestatic index, 3)) :
    va_Run p l e R s m args below meth c H locs cells slots mc ms (F0 m pc ls st0) rest (Qc As.toArray) A1 := by
  obtain ⟨i1, i3, i4, i5⟩ := I
  have hts := S.2.2.2.2
  exact va_runS (As := As) (rest := rest) (index := index) (n := n) S hM ⟨callB_of n hts (ws_good i4) rfl hrc hrs (hts _ i3) (hts _ L) i5 hR, hts _ i1⟩ ⟨gPre.blind, x_pre0 hK hP hD hE⟩ rfl hn hls hst (lv_room hW) hdg hf
/-- invokespecial of a constructor or of a method above -/
theorem x_I (S : CallFix p m c cc nL s args lw_all own) (I : MC y bytes maxL n) (L : Cond.methodLink own index y ∈ lw_all)
    (hM : Met l y (ws_ y bytes maxL none) rm (gPx D A1 (.ref b :: As) ws X) Qc mc ms A1) (hX : stX X) (hK : va_K D vwCl (gTys D) s) (hP : va_P D vwCl ws H) (hD : va_D A1 ws) (hE : EV D A1 s H) (hx : X s H)
    (hst : st0 = As.reverse ++ .ref b :: rest) (hn : As.length = n) (hls : ls.size = nL) (hW : (rest.map fun v => v.category).sum ≤ 8)
    (hrc : rm.cells = mc) (hrs : rm.slots = ms) (hR : rm.frames + 1 ≤ R.frames ∧ 8 + (maxL + 11) + rm.locals ≤ R.locals) (hf : cells + mc ≤ R.cells ∧ slots + ms ≤ R.slots) (hdg : decode cc pc = .ok (.invokespecial index, 3)) :
    va_Run p l e R s m args below meth c H locs cells slots mc ms (F0 m pc ls st0) rest (Qc (Value.ref b :: As).toArray) A1 := by
  obtain ⟨i1, i3, i4, i5, i6⟩ := I
  have hts := S.2.2.2.2
  exact va_runI (As := As) (rest := rest) (index := index) (n := n) S hM (cwI n hts (ws_good i4) rfl hrc hrs (hts _ i3) (hts _ L) (hts _ i1) i5 i6 hR) ⟨gPx.blind hX, x_pre hX hK hP hD hE hx⟩ rfl hn hls hst (lv_room hW) hdg hf
/-- behind a call: what the callee's region isn't has stayed -/
theorem x_aft {Qp : Option Value → Heap → Heap → Prop} {a : Array Value} (hr : va_Run p l e R s m args below meth c H locs cells slots mc ms (F0 m pc ls st0) rest (gG A1 Qp a) A1) (hS : va_S A H0 H locs) (hA : ∀ q, A1 q → A q)
    (kk : ∀ (v : Option Value) (H1 : Heap) (locs1 : List Loc), Qp v H H1 → H.size ≤ H1.size → (∀ q : Nat, q < H.size → ¬ A1 q → H1[q]? = H[q]?) → va_S A H0 H1 locs1 → W p l e R s m args below meth c H1 locs1 (cells + mc) (slots + ms) Q (F0 m (pc + 3) ls (v.toList ++ rest))) : W p l e R s m args below meth c H locs cells slots Q (F0 m pc ls st0) := by
  intro T hT X
  obtain ⟨v, st₀, t, T', L, h0, X', hL, e1, e2, ⟨⟨v', hv, hq⟩, hz, hk⟩, st⟩ := hr T hT X
  cases hv
  rw [h0] at hz hk hq
  obtain ⟨t2, a1, b1⟩ := kk v T'.heap (locs ++ L) (by rw [e1]; exact hq) (by rw [e1]; exact hz) (fun q h1 h2 => by rw [e1]; exact hk q h1 h2)
    ⟨Nat.le_trans hS.1 (by rw [e1]; exact hz), fun q h1 h2 => by rw [e1, hk q (Nat.lt_of_lt_of_le h1 hS.1) (fun z => h2 (hA q z))]; exact hS.2.1 q h1 h2, fun q hq => by
      rcases List.mem_append.mp hq with h | h
      · exact hS.2.2 q h
      · exact hA _ (hL q h)⟩ T' rfl X'
  exact ⟨t2, st t2 a1, b1⟩
theorem x_aftQ {V : Option Value} {Wp : va_W → Prop} {a : Array Value} {st1 : List Value} (hr : va_Run p l e R s m args below meth c H locs cells slots mc ms (F0 m pc ls st0) rest (gQ D A1 V Wp a) A1) (hS : va_S A H0 H locs) (hA : ∀ q, A1 q → A q) (h1 : V.toList ++ rest = st1)
    (kk : ∀ (w1 : va_W) (H1 : Heap) (locs1 : List Loc), Wp w1 → va_P D vwCl w1 H1 → va_D A1 w1 → H.size ≤ H1.size → (∀ q : Nat, q < H.size → ¬ A1 q → H1[q]? = H[q]?) → va_S A H0 H1 locs1 → W p l e R s m args below meth c H1 locs1 (cells + mc) (slots + ms) Q (F0 m (pc + 3) ls st1)) : W p l e R s m args below meth c H locs cells slots Q (F0 m pc ls st0) := by
  intro T hT X
  obtain ⟨v, st₀, t, T', L, h0, X', hL, e1, e2, ⟨⟨hv, w, hw, hP, hD⟩, hz, hk⟩, st⟩ := hr T hT X
  cases hv
  subst h1
  rw [h0] at hz hk
  obtain ⟨t2, a1, b1⟩ := kk w T'.heap (locs ++ L) hw (by rw [e1]; exact hP) hD (by rw [e1]; exact hz) (fun q h1 h2 => by rw [e1]; exact hk q h1 h2)
    ⟨Nat.le_trans hS.1 (by rw [e1]; exact hz), fun q h1 h2 => by rw [e1, hk q (Nat.lt_of_lt_of_le h1 hS.1) (fun z => h2 (hA q z))]; exact hS.2.1 q h1 h2, fun q hq => by
      rcases List.mem_append.mp hq with h | h
      · exact hS.2.2 q h
      · exact hA _ (hL q h)⟩ T' rfl X'
  exact ⟨t2, st t2 a1, b1⟩
theorem x_aftR {V : Option Value} {a : Array Value} {st1 : List Value} (hr : va_Run p l e R s m args below meth c H locs cells slots mc ms (F0 m pc ls st0) rest (gR V a) A1) (hS : va_S A H0 H locs) (hA : ∀ q, A1 q → A q) (h1 : V.toList ++ rest = st1)
    (kk : ∀ (locs1 : List Loc), va_S A H0 H locs1 → W p l e R s m args below meth c H locs1 (cells + mc) (slots + ms) Q (F0 m (pc + 3) ls st1)) : W p l e R s m args below meth c H locs cells slots Q (F0 m pc ls st0) := by
  intro T hT X
  obtain ⟨v, st₀, t, T', L, h0, X', hL, e1, e2, ⟨hv, hh⟩, st⟩ := hr T hT X
  cases hv
  subst h1
  obtain ⟨t2, a1, b1⟩ := kk (locs ++ L) ⟨hS.1, hS.2.1, fun q hq => by
      rcases List.mem_append.mp hq with h | h
      · exact hS.2.2 q h
      · exact hA _ (hL q h)⟩ T' (by rw [e1, hh, h0]) X'
  exact ⟨t2, st t2 a1, b1⟩
end GXC
/-- a text out of the world: its cells are beside A -/
theorem Tx.of {D : va_G} {A : Nat → Prop} {s : State} {H : Heap} {args : Array Value} {a v n : Nat} {h z : Int32} {f : Nat → Int32} (hts : ∀ w ∈ lw_all, w.before args s = true) (hK : va_K D vwCl (gTys D) s) (ha : va_at D vwCl (a, .inr (12, [.ref v, .int 0, .int h, .int z])) H) (hv : va_at D vwCl (v, .inl (D.1 101, n, .inl f)) H) (h1 : ¬ A a) (h2 : ¬ A v) : Tx A s H a v n f := by
  obtain ⟨r, hr, cell, g1, g2, g3, g4⟩ := ha
  have hr : r = (RJ0, TJ0, 4) := Option.some.inj (hr.symm.trans rfl)
  subst hr
  obtain ⟨hS, hfc, kC, hkC, hkind⟩ := hK.1 12 _ (rfl : vwCl[12]? = some (RJ0, TJ0, 4))
  have fld : ∀ k : Nat, k < 4 → ∀ x : Value, vp_V [.ref v, .int 0, .int h, .int z] k = x → va_OF (TJ0 k).1 (TJ0 k).2.1 (TJ0 k).2.2.1 x a A s H := by
    intro k hk x hx
    obtain ⟨cf, kk, i, fd, q1, q2⟩ := hS k hk
    exact ⟨cf, kk, i, fd, cell, q1, (u_facts hfc hkC (u_lays hts inJ0 hk) q1).1, g1, by rw [g3]; exact fun q => (by cases q), by rw [q2, g4 k hk]; exact congrArg some hx, h1⟩
  refine ⟨⟨cell, g1, by rw [g3]; rfl, by rw [g2]; exact hfc, h1⟩, fld 1 (by decide) _ rfl, fld 0 (by decide) _ rfl, ?_⟩
  have hA := (hK.2 1 _ (rfl : (gTys D)[1]? = some (D.1 101, .byte))).1
  have hv' : H[v]? = some (arrV (D.1 101) n (fun j => .int (f j))) := hv
  exact ⟨_, hv', hA n _, fun q => (by cases q), Nat.le_of_eq (arrV_size _ _ _).symm, congrArg Nat.toInt32 (arrV_size _ _ _), fun j hj => arrV_read _ _ hj, h2⟩
