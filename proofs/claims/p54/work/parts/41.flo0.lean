/-! methods that may draw (floats and doubles) -/
section FL
variable {p : Program} {l : Launch} {e : Env} {R : Room} {s : State} {m : MethodId} {args : Array Value} {below : List Frame} {meth : Method} {c : Code} {H : Heap} {locs : List Loc} {cells slots : Nat} {Q : State → Prop}
variable {cc : ByteArray} {nL pc : Nat} {ls : Array Slot} {rest : List Value} {D : va_G} {A : Nat → Prop} {own : String}
theorem lv_ldcwf (hexec : p.tables.exec = Jvm.exec) (hb : c.code = cc) {own : String} {index : Nat} {v : UInt32} (hown : s.vm.findClass own = some m.cls) (hconst : (Jvm.Cond.constantFloat own index v).before args s = true) (hdg : decode cc pc = .ok (.ldc_w index, 3)) (k : W p l e R s m args below meth c H locs cells slots Q (F0 m (pc + 3) ls (.float v :: rest))) : W p l e R s m args below meth c H locs cells slots Q (F0 m pc ls rest) := by
  intro T hT X
  obtain ⟨t, a, b⟩ := k T hT X
  obtain ⟨kC, cf, hk, hcf, hcp⟩ := Cond.constantFloat_spec hown hconst
  obtain ⟨k', hk', he⟩ := X.warmed.alike.2.2 _ _ hk
  refine ⟨t, ?_, b⟩
  jvm_step X.here [X.here.top, hexec, hb, hdg, ldc_w.wp_float (s := T) (f := F0 m pc ls rest) X.here.top hk' (by rw [he]; exact hcf) hcp]
  exact a
/-- what a method answers that may draw: x, or any NaN where that is one -/
def gF (x : UInt32) : Array Value → State → Outcome → State → Prop := fun _ st oc t => (∃ r : UInt32, oc = .returned (some (.float r)) ∧ alike32 r x = true) ∧ t.heap = st.heap
def gD (x : UInt64) : Array Value → State → Outcome → State → Prop := fun _ st oc t => (∃ r : UInt64, oc = .returned (some (.double r)) ∧ alike64 r x = true) ∧ t.heap = st.heap
theorem g_fretD (hx : p.tables.exec = Jvm.exec) (hb : c.code = cc) (hr : meth.sig.returnType = some .float) (hlk : meth.locks = false) (hS : va_S A s.heap s.heap locs) {r x : UInt32} (ha : alike32 r x = true) (hdg : decode cc pc = .ok (.freturn, 1)) {d1 : Drawn} :
    W p l e R (s.setDrawn d1) m args below meth c s.heap locs cells slots (MQ below (gF x) args (s.setDrawn d1) cells slots A) (F0 m pc ls [.float r]) :=
  W.fret hx hb hr (fun t ht _ => ⟨⟨r, rfl, ha⟩, ht⟩) hS.2.2 hdg hlk
theorem g_dretD (hx : p.tables.exec = Jvm.exec) (hb : c.code = cc) (hr : meth.sig.returnType = some .double) (hlk : meth.locks = false) (hS : va_S A s.heap s.heap locs) {r x : UInt64} (ha : alike64 r x = true) (hdg : decode cc pc = .ok (.dreturn, 1)) {d1 : Drawn} :
    W p l e R (s.setDrawn d1) m args below meth c s.heap locs cells slots (MQ below (gD x) args (s.setDrawn d1) cells slots A) (F0 m pc ls [.double r]) :=
  W.dret hx hb hr (fun t ht _ => ⟨⟨r, rfl, ha⟩, ht⟩) hS.2.2 hdg hlk
end FL
/-- a method that may draw from its entry: s is the start with its own record of draws -/
theorem g_metD {l : Launch} {y : MethodName} {cc : ByteArray} {maxL mc ms : Nat} {ret : Option FieldType} {rm : Room} {D : va_G} {A : Nat → Prop} {av : List Value} {ws : va_W} {Qc : Array Value → State → Outcome → State → Prop} (lv : List (Nat × Value)) (hy : plainName y.cls = true) (hlen : (lg_sl av).length ≤ maxL) (hlv : lv_args 0 av = lv)
    (body : ∀ (p : Program) (e : Env) (s : State) (m : MethodId) (args : Array Value) (below : List Frame) (meth : Method) (c : Code) (ls : Array Slot) (Z : State → Prop), (∀ (d1 : Drawn) (H : Heap) (locs : List Loc) (g : JFrame) (cl sl : Nat), s.drawn.sameBut d1 lw_cs → W p l e rm (s.setDrawn d1) m args below meth c H locs cl sl (MQ below Qc args (s.setDrawn d1) mc ms A) g → W p l e rm (s.setDrawn d1) m args below meth c H locs cl sl Z g) → CallFix p m c cc maxL s args lw_all y.cls → va_K D vwCl (gTys D) s → va_P D vwCl ws s.heap → va_D A ws → EV D A s s.heap → va_S A s.heap s.heap [] → meth.sig.returnType = ret → meth.locks = false → meth.name = y.name → lv_has ls maxL lv →
      W p l e rm s m args below meth c s.heap [] 0 0 Z (F0 m 0 ls [])) : MetD lw_cs l y (ws_ y cc maxL ret) rm (gPre D A av ws) Qc mc ms A := by
  refine MetD.ofW (cc := cc) (maxL := maxL) (ret := ret) hy rfl ?_
  intro p e s m args below meth c s₁ B hml hv hd0
  obtain ⟨rfl, hP, hK, hD, hE⟩ := hv
  have hts0 := atoms_spec (ws := ws_ y cc maxL ret) B.pre
  have hts : ∀ w ∈ lw_all, w.before av.toArray s = true := fun w h => hts0 w (List.mem_cons_of_mem _ h)
  have hl := lv_entry av (n := maxL) hlen
  rw [hlv] at hl
  rw [lg_entry_eq]
  exact body p e s m _ below meth c _ _ (fun d1 H locs g cl sl hd k => W.endD hd k) ⟨B.exec, B.bytes, hml, findClass_of_methodNamed B.named, hts⟩ hK hP hD hE va_S.rf B.returns B.notSynchronized (name_of_methodNamed B.named B.method).1 hl
