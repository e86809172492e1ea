/-! CALLS OF METHODS THAT DRAW, in the object's own region -/
theorem g_metDX {l : Launch} {y : MethodName} {cc : ByteArray} {maxL mc ms : Nat} {ret : Option FieldType} {rm : Room} {D : va_G} {A : Nat → Prop} {av : List Value} {ws : va_W} {X : State → Heap → Prop} {Qc : Array Value → State → Outcome → State → Prop} (lv : List (Nat × Value)) (hy : plainName y.cls = true) (hlen : (lg_sl av).length ≤ maxL) (hlv : lv_args 0 av = lv)
    (body : ∀ (p : Program) (e : Env) (s : State) (m : MethodId) (args : Array Value) (below : List Frame) (meth : Method) (c : Code) (ls : Array Slot) (Z : State → Prop), LEnd p l e rm s m args below meth c Qc A Z mc ms → CallFix p m c cc maxL s args lw_all y.cls → va_K D vwCl (gTys D) s → va_P D vwCl ws s.heap → va_D A ws → EV D A s s.heap → va_S A s.heap s.heap [] → X s s.heap → meth.sig.returnType = ret → meth.locks = false → meth.name = y.name → lv_has ls maxL lv →
      W p l e rm s m args below meth c s.heap [] 0 0 Z (F0 m 0 ls [])) : MetD lw_cs l y (ws_ y cc maxL ret) rm (gPx D A av ws X) Qc mc ms A := by
  refine MetD.ofW (cc := cc) (maxL := maxL) (ret := ret) hy rfl ?_
  intro p e s m args below meth c s₁ B hml hv hd0
  obtain ⟨rfl, ⟨hP, hK, hD, hE⟩, hx⟩ := hv
  have hts0 := atoms_spec (ws := ws_ y cc maxL ret) B.pre
  have hts : ∀ w ∈ lw_all, w.before av.toArray s = true := fun w h => hts0 w (List.mem_cons_of_mem _ h)
  have hl := lv_entry av (n := maxL) hlen
  rw [hlv] at hl
  rw [lg_entry_eq]
  exact body p e s m _ below meth c _ _ (fun d1 H locs g cl sl hd k => W.endD hd k) ⟨B.exec, B.bytes, hml, findClass_of_methodNamed B.named, hts⟩ hK hP hD hE va_S.rf hx B.returns B.notSynchronized (name_of_methodNamed B.named B.method).1 hl
section XDR
variable {p : Program} {l : Launch} {e : Env} {R : Room} {s : State} {m : MethodId} {args : Array Value} {below : List Frame} {meth : Method} {c : Code} {H : Heap} {locs : List Loc} {cells slots mc ms : Nat} {Q : State → Prop}
variable {cc : ByteArray} {nL pc : Nat} {ls : Array Slot} {rest st0 st1 : List Value} {D : va_G} {A A1 : Nat → Prop} {w ws : va_W} {own : String} {y : MethodName} {bytes : ByteArray} {maxL n index : Nat} {ret : Option FieldType} {rm : Room} {As : List Value} {Qc : Array Value → State → Outcome → State → Prop} {X : State → Heap → Prop}
theorem x_StD (S : CallFix p m c cc nL s args lw_all own) (I : MS y bytes maxL ret n) (L : Cond.methodLink own index y ∈ lw_all)
    (hM : MetD lw_cs l y (ws_ y bytes maxL ret) rm (gPx D A1 As ws X) Qc mc ms A1) (hX : stX X) (hK : va_K D vwCl (gTys D) s) (hP : va_P D vwCl ws H) (hD : va_D A1 ws) (hE : EV D A1 s H) (hx : X s H)
    (hst : st0 = As.reverse ++ rest) (hn : As.length = n) (hls : ls.size = nL) (hW : (rest.map fun v => v.category).sum ≤ 8)
    (hrc : rm.cells = mc) (hrs : rm.slots = ms) (hR : rm.frames + 1 ≤ R.frames ∧ 8 + (maxL + 11) + rm.locals ≤ R.locals) (hf : cells + mc ≤ R.cells ∧ slots + ms ≤ R.slots) (hdg : decode cc pc = .ok (.invokestatic index, 3)) :
    va_RunD lw_cs p l e R s m args below meth c H locs cells slots mc ms (F0 m pc ls st0) rest (Qc As.toArray) A1 := by
  obtain ⟨i1, i3, i4, i5⟩ := I
  have hts := S.2.2.2.2
  exact va_runS_D (As := As) (rest := rest) (index := index) (n := n) S hM ⟨callB_of n hts (ws_good i4) rfl hrc hrs (hts _ i3) (hts _ L) i5 hR, hts _ i1⟩ ⟨gPx.blind hX, x_pre hX hK hP hD hE hx⟩ rfl hn hls hst (lv_room hW) hdg hf
theorem x_StD0 (S : CallFix p m c cc nL s args lw_all own) (I : MS y bytes maxL ret n) (L : Cond.methodLink own index y ∈ lw_all)
    (hM : MetD lw_cs l y (ws_ y bytes maxL ret) rm (gPre D A1 As ws) Qc mc ms A1) (hK : va_K D vwCl (gTys D) s) (hP : va_P D vwCl ws H) (hD : va_D A1 ws) (hE : EV D A1 s H)
    (hst : st0 = As.reverse ++ rest) (hn : As.length = n) (hls : ls.size = nL) (hW : (rest.map fun v => v.category).sum ≤ 8)
    (hrc : rm.cells = mc) (hrs : rm.slots = ms) (hR : rm.frames + 1 ≤ R.frames ∧ 8 + (maxL + 11) + rm.locals ≤ R.locals) (hf : cells + mc ≤ R.cells ∧ slots + ms ≤ R.slots) (hdg : decode cc pc = .ok (.invokestatic index, 3)) :
    va_RunD lw_cs p l e R s m args below meth c H locs cells slots mc ms (F0 m pc ls st0) rest (Qc As.toArray) A1 := by
  obtain ⟨i1, i3, i4, i5⟩ := I
  have hts := S.2.2.2.2
  exact va_runS_D (As := As) (rest := rest) (index := index) (n := n) S hM ⟨callB_of n hts (ws_good i4) rfl hrc hrs (hts _ i3) (hts _ L) i5 hR, hts _ i1⟩ ⟨gPre.blind, x_pre0 hK hP hD hE⟩ rfl hn hls hst (lv_room hW) hdg hf
theorem x_ownQD {V : Option Value} {Wp : va_W → Prop} {a : Array Value} (hr : va_RunD lw_cs p l e R s m args below meth c H locs cells slots mc ms (F0 m pc ls st0) rest (gQ D (va_A w H.size) V Wp a) (va_A w H.size)) (hS : va_S A s.heap H locs) (hD : va_D A w) (hA : ∀ q, s.heap.size ≤ q → A q) (h1 : V.toList ++ rest = st1)
    (kk : ∀ (d1 : Drawn) (w1 : va_W) (H1 : Heap) (locs1 : List Loc), s.drawn.sameBut d1 lw_cs → Wp w1 → va_P D vwCl w1 H1 → va_D A w1 → va_S A s.heap H1 locs1 → KP s w H w1 H1 → W p l e R (s.setDrawn d1) m args below meth c H1 locs1 (cells + mc) (slots + ms) Q (F0 m (pc + 3) ls st1)) : W p l e R s m args below meth c H locs cells slots Q (F0 m pc ls st0) := by
  have hA1 : ∀ q, va_A w H.size q → A q := wa_sub hD (fun q hq => hA q (Nat.le_trans hS.1 hq))
  intro T hT X
  obtain ⟨v, st₀, t, T', L, d', hd', h0, X', hL, e1, e2, ⟨⟨hv, w1, hw, hP, hD1⟩, hz, hk⟩, st⟩ := hr T hT X
  cases hv
  subst h1
  have hz : H.size ≤ t.heap.size := by rw [← h0]; exact hz
  have hk : ∀ q : Nat, q < H.size → ¬ va_A w H.size q → t.heap[q]? = H[q]? := fun q h1 h2 => by
    have := hk q (by rw [← h0] at h1; exact h1) h2
    rw [← h0]
    exact this
  obtain ⟨t2, a1, b1⟩ := kk d' w1 T'.heap (locs ++ L) hd' hw (by rw [e1]; exact hP) (wd_up hD (fun q hq => hA q (Nat.le_trans hS.1 hq)) hD1)
    ⟨Nat.le_trans hS.1 (by rw [e1]; exact hz), fun q h1 h2 => by rw [e1, hk q (Nat.lt_of_lt_of_le h1 hS.1) (fun z => h2 (hA1 q z))]; exact hS.2.1 q h1 h2, fun q hq => by
      rcases List.mem_append.mp hq with h | h
      · exact hS.2.2 q h
      · exact hA1 _ (hL q h)⟩ (kp_of (by rw [e1]; exact hz) (fun q h1 h2 => by rw [e1]; exact hk q h1 h2) hD1) T' rfl X'
  exact ⟨t2, st t2 a1, b1⟩
theorem x_ownGD {Qp : Option Value → Heap → Heap → Prop} {a : Array Value} (hr : va_RunD lw_cs p l e R s m args below meth c H locs cells slots mc ms (F0 m pc ls st0) rest (gG (va_A w H.size) Qp a) (va_A w H.size)) (hS : va_S A s.heap H locs) (hD : va_D A w) (hA : ∀ q, s.heap.size ≤ q → A q)
    (kk : ∀ (d1 : Drawn) (v : Option Value) (H1 : Heap) (locs1 : List Loc), s.drawn.sameBut d1 lw_cs → Qp v H H1 → va_S A s.heap H1 locs1 → (∀ w1, va_D (va_A w H.size) w1 → va_D A w1 ∧ KP s w H w1 H1) → W p l e R (s.setDrawn d1) m args below meth c H1 locs1 (cells + mc) (slots + ms) Q (F0 m (pc + 3) ls (v.toList ++ rest))) : W p l e R s m args below meth c H locs cells slots Q (F0 m pc ls st0) := by
  have hA1 : ∀ q, va_A w H.size q → A q := wa_sub hD (fun q hq => hA q (Nat.le_trans hS.1 hq))
  intro T hT X
  obtain ⟨v, st₀, t, T', L, d', hd', h0, X', hL, e1, e2, ⟨⟨v', hv, hq⟩, hz, hk⟩, st⟩ := hr T hT X
  cases hv
  have hq : Qp v H T'.heap := by
    rw [e1]
    have e : (st₀.setDrawn d').heap = H := h0
    rw [← e]
    exact hq
  have hz : H.size ≤ t.heap.size := by rw [← h0]; exact hz
  have hk : ∀ q : Nat, q < H.size → ¬ va_A w H.size q → t.heap[q]? = H[q]? := fun q h1 h2 => by
    have := hk q (by rw [← h0] at h1; exact h1) h2
    rw [← h0]
    exact this
  obtain ⟨t2, a1, b1⟩ := kk d' v T'.heap (locs ++ L) hd' hq
    ⟨Nat.le_trans hS.1 (by rw [e1]; exact hz), fun q h1 h2 => by rw [e1, hk q (Nat.lt_of_lt_of_le h1 hS.1) (fun z => h2 (hA1 q z))]; exact hS.2.1 q h1 h2, fun q hq => by
      rcases List.mem_append.mp hq with h | h
      · exact hS.2.2 q h
      · exact hA1 _ (hL q h)⟩ (fun w1 hD1 => ⟨wd_up hD (fun q hq => hA q (Nat.le_trans hS.1 hq)) hD1, kp_of (by rw [e1]; exact hz) (fun q h1 h2 => by rw [e1]; exact hk q h1 h2) hD1⟩) T' rfl X'
  exact ⟨t2, st t2 a1, b1⟩
end XDR
theorem KP.drawn {s : State} {w w1 : va_W} {H H1 : Heap} (h : KP s w H w1 H1) (d : Drawn) {a v n : Nat} {f : Nat → Int32} (t : Tx (va_A w H.size) s H a v n f) : Tx (va_A w1 H1.size) (s.setDrawn d) H1 a v n f := (h.2 a v n f t).moved (Vm.Alike.refl s.vm)
