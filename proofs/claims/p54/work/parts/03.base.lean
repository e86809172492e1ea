/-! OUR OWN LAYER: one world (a list of cells, a cell's place is its name) for every contract; calls say what world they leave -/
abbrev gTys (D : va_G) : List (ClassId × FieldType) := [(D.1 100, .int), (D.1 101, .byte), (D.1 102, .boolean), (D.1 103, .object "StickVotes$State")]
abbrev ws_ (y : MethodName) (cc : ByteArray) (n : Nat) (ret : Option FieldType) : List Cond := .code y cc n ret :: lw_all
/-- the words of calls among nest mates -/
def nestW : List (String × Nat × MethodName × String) := [(RX11, 9, yX4_init, RX11), (RX4, 22, yX7_init, RX11), (RX11, 23, yX10_init, RX11), (RX10, 11, yX7_init, RX11), (RX10, 20, yX8_init, RX11), (RX8, 11, yX2_init, RX11), (RX8, 20, yX9_init, RX11), (RX10, 27, yX0_init, RX11), (RX3, 17, yX8_init, RX11), (RX11, 47, yX8_init, RX11), (RX11, 58, yX6_init, RX11), (RX7, 51, yX11_setCell, RX11), (RX7, 47, yX11_cell, RX11), (RX2, 40, yX11_fillRow, RX11), (RX9, 30, yX11_fillRow, RX11), (RX3, 25, yX11_isIn, RX11), (RX2, 44, yX11_copyRow, RX11), (RX9, 34, yX11_copyRow, RX11), (RX5, 28, yX11_copyRow, RX11), (RX9, 38, yX11_cell, RX11), (RX9, 52, yX11_setCell, RX11), (RX5, 39, yX11_setCell, RX11), (RX2, 48, yX11_cell, RX11), (RX7, 43, yX11_copyRow, RX11), (RX0, 44, yX11_fillRow, RX11), (RX0, 48, yX11_isBasket, RX11), (RX0, 40, yX11_cell, RX11), (RX0, 26, yX11_setCell, RX11), (RX2, 52, yX11_setCell, RX11), (RX5, 51, yX11_isIn, RX11), (RX5, 55, yX11_cell, RX11)]
/-- the texts of the class: for each place of a pool its own text's number -/
def strTab : List (String × Nat × String × Nat) := [(RX4, 50, "season", 0), (RX4, 60, "shares", 1), (RX4, 65, "less", 2), (RX4, 67, "least", 3), (RX4, 69, "carry", 4), (RX4, 71, "appeal", 5), (RX4, 73, "recounts", 6), (RX4, 78, "boat", 7), (RX4, 100, "person", 8), (RX4, 108, "of", 9), (RX6, 83, "hand", 10), (RX6, 85, "with", 11), (RX6, 87, "laid", 12), (RX6, 89, "struck", 13), (RX6, 59, " *", 14), (RX6, 109, "sails", 15), (RX6, 111, "home", 16), (RX6, 113, "opens", 17), (RX6, 115, "fault", 18), (RX6, 117, "closed", 19), (RX6, 119, "turns", 20), (RX6, 137, "season", 0), (RX6, 142, " shares", 21), (RX6, 144, " less", 22), (RX6, 146, " least", 23), (RX6, 148, " carry", 24), (RX6, 150, " appeal", 25), (RX6, 152, " recounts", 26), (RX6, 128, "boat ", 27), (RX6, 157, "person ", 28), (RX6, 159, " of ", 29), (RL, 48, "season ", 30), (RL, 60, " shares ", 31), (RL, 68, " less ", 32), (RL, 70, " least ", 33), (RL, 72, " carry ", 34), (RL, 74, " appeal ", 35), (RL, 76, " recounts ", 36), (RL, 78, ";", 37), (RL, 80, "boat ", 27), (RL, 82, "person ", 28), (RL, 85, " of ", 29), (RL, 216, " ", 38)]
def strLen : List Nat := [6, 6, 4, 5, 5, 6, 8, 4, 6, 2, 4, 4, 4, 6, 2, 5, 4, 5, 5, 6, 5, 7, 5, 6, 6, 7, 9, 5, 7, 4, 7, 8, 6, 7, 7, 8, 10, 1, 1]
def strByt : List (List Int32) := [[115, 101, 97, 115, 111, 110], [115, 104, 97, 114, 101, 115], [108, 101, 115, 115], [108, 101, 97, 115, 116], [99, 97, 114, 114, 121], [97, 112, 112, 101, 97, 108], [114, 101, 99, 111, 117, 110, 116, 115], [98, 111, 97, 116], [112, 101, 114, 115, 111, 110], [111, 102], [104, 97, 110, 100], [119, 105, 116, 104], [108, 97, 105, 100], [115, 116, 114, 117, 99, 107], [32, 42], [115, 97, 105, 108, 115], [104, 111, 109, 101], [111, 112, 101, 110, 115], [102, 97, 117, 108, 116], [99, 108, 111, 115, 101, 100], [116, 117, 114, 110, 115], [32, 115, 104, 97, 114, 101, 115], [32, 108, 101, 115, 115], [32, 108, 101, 97, 115, 116], [32, 99, 97, 114, 114, 121], [32, 97, 112, 112, 101, 97, 108], [32, 114, 101, 99, 111, 117, 110, 116, 115], [98, 111, 97, 116, 32], [112, 101, 114, 115, 111, 110, 32], [32, 111, 102, 32], [115, 101, 97, 115, 111, 110, 32], [32, 115, 104, 97, 114, 101, 115, 32], [32, 108, 101, 115, 115, 32], [32, 108, 101, 97, 115, 116, 32], [32, 99, 97, 114, 114, 121, 32], [32, 97, 112, 112, 101, 97, 108, 32], [32, 114, 101, 99, 111, 117, 110, 116, 115, 32], [59], [32]]
/-- what every method may take of the tables and of cells that nobody writes; D.2 200, D.2 201: where the texts and their bytes lie -/
def EV (D : va_G) (A : Nat → Prop) (U : State) (H : Heap) : Prop :=
  (∀ q ∈ nestW, va_Nw (.methodLinkNest q.1 q.2.1 q.2.2.1 q.2.2.2) U) ∧ va_AO "StickVotes$State" U ∧
  (∀ q ∈ strTab, vk_R q.1 q.2.1 q.2.2.1 (D.2 200 q.2.2.2) U) ∧ vk_S strLen.length strLen strByt (D.2 200) (D.2 201) A U H ∧
  va_Z "java/lang/String" "COMPACT_STRINGS" "Z" (.int 1) A U H ∧ va_Zq "jdk/internal/util/Preconditions" "SIOOBE_FORMATTER" "Ljava/util/function/BiFunction;" A U H
theorem EV.warm {D : va_G} {A : Nat → Prop} {s U : State} {H0 H : Heap} {locs : List Loc} (h : EV D A s H0) (hW : s.WarmedH U.vm) (hS : va_S A H0 H locs) : EV D A U H := by
  obtain ⟨h1, h2, h3, h4, h5, h6⟩ := h
  exact ⟨fun q hq => va_Nw.warmM hW (h1 q hq), va_AO.moved hW.alike h2, fun q hq => vk_R.warm hW (h3 q hq), (h4.moved hW.alike).kept hS.2.1, (va_Z.moved hW.alike h5).kept hS.2.1, (va_Zq.moved hW.alike h6).kept hS.2.1⟩
theorem EV.same {D : va_G} {A : Nat → Prop} {s U : State} {H : Heap} (h : EV D A s H) (hv : s.vm = U.vm) : EV D A U H := by
  obtain ⟨h1, h2, h3, h4, h5, h6⟩ := h
  have ha : s.vm.Alike U.vm := by rw [← hv]; exact Vm.Alike.refl _
  exact ⟨fun q hq => va_Nw.same rfl hv (h1 q hq), va_AO.moved ha h2, fun q hq => vk_R.same hv.symm (h3 q hq), h4.moved ha, va_Z.moved ha h5, va_Zq.moved ha h6⟩
/-- a method's start: the world ws, apart within A -/
def gPre (D : va_G) (A : Nat → Prop) (av : List Value) (ws : va_W) : Array Value → State → Prop := va_Pc av (fun U => va_P D vwCl ws U.heap ∧ va_K D vwCl (gTys D) U ∧ va_D A ws ∧ EV D A U U.heap)
/-- a method's end: it answers V and leaves a world of which Wp holds -/
def gQ (D : va_G) (A : Nat → Prop) (V : Option Value) (Wp : va_W → Prop) : Array Value → State → Outcome → State → Prop := fun _ st oc t => (oc = .returned V ∧ ∃ w : va_W, Wp w ∧ va_P D vwCl w t.heap ∧ va_D A w) ∧ va_F A st t
/-- the same of a method that writes nothing -/
def gR (V : Option Value) : Array Value → State → Outcome → State → Prop := fun _ st oc t => oc = .returned V ∧ t.heap = st.heap
theorem gPre.blind {D : va_G} {A : Nat → Prop} {av : List Value} {ws : va_W} : FrameBlind (gPre D A av ws) := by
  intro a U g mk h
  obtain ⟨h0, h1, h2, h3, h4⟩ := h
  exact ⟨h0, h1, va_K.moved (u := U) (U := U.calling g mk a) (Vm.Alike.refl U.vm) h2, h3, EV.same (s := U) h4 rfl⟩
/-- what the tables say of an instance method, of a static one, of a constructor -/
def MI (C : String) (y : MethodName) (bytes : ByteArray) (maxL : Nat) (ret : Option FieldType) (n : Nat) : Prop := Cond.instanceMethod y ∈ lw_all ∧ Cond.selects C y y ∈ lw_all ∧ Cond.initialized C ∈ lw_all ∧ Cond.code y bytes maxL ret ∈ lw_all ∧ (y.cls = C ∧ y.cls ≠ "java/lang/invoke/MethodHandle" ∧ y.cls ≠ "java/lang/invoke/VarHandle" ∧ (parseMethodDescriptor y.desc).map (fun d => d.parameters.length) = some n)
def MS (y : MethodName) (bytes : ByteArray) (maxL : Nat) (ret : Option FieldType) (n : Nat) : Prop := Cond.static y ∈ lw_all ∧ Cond.initialized y.cls ∈ lw_all ∧ Cond.code y bytes maxL ret ∈ lw_all ∧ (y.cls ≠ "java/lang/invoke/MethodHandle" ∧ y.cls ≠ "java/lang/invoke/VarHandle" ∧ (parseMethodDescriptor y.desc).map (fun d => d.parameters.length) = some n)
def MC (y : MethodName) (bytes : ByteArray) (maxL : Nat) (n : Nat) : Prop := Cond.instanceMethod y ∈ lw_all ∧ Cond.initialized y.cls ∈ lw_all ∧ Cond.code y bytes maxL none ∈ lw_all ∧ y.name = "<init>" ∧ (y.cls ≠ "java/lang/invoke/MethodHandle" ∧ y.cls ≠ "java/lang/invoke/VarHandle" ∧ (parseMethodDescriptor y.desc).map (fun d => d.parameters.length) = some n)
theorem ws_good {y : MethodName} {cc : ByteArray} {n : Nat} {ret : Option FieldType} (h : Cond.code y cc n ret ∈ lw_all) : GoodIn lw_all (ws_ y cc n ret) := fun w hw => by
  rcases List.mem_cons.mp hw with e | e
  · subst e
    exact ⟨h, good_of_word (lw_good _ h)⟩
  · exact ⟨e, good_of_word (lw_good _ e)⟩
section GW
variable {p : Program} {l : Launch} {e : Env} {R : Room} {s : State} {m : MethodId} {args : Array Value} {below : List Frame} {meth : Method} {c : Code} {H : Heap} {locs : List Loc} {cells slots : Nat} {Q : State → Prop}
variable {cc : ByteArray} {nL pc : Nat} {ls : Array Slot} {rest : List Value} {D : va_G} {A : Nat → Prop} {ws : va_W} {own : String}
theorem g_get (S : CallFix p m c cc nL s args lw_all own) (hK : va_K D vwCl (gTys D) s) (hP : va_P D vwCl ws H) {q0 a ci N index : Nat} {fs : List Value} {C : String} {T : u_T} (he : ws[q0]? = some (a, .inr (ci, fs))) (hc : vwCl[ci]? = some (C, T, N)) (hin : ∀ w ∈ u_ws C T N, w ∈ lw_all) (k : Nat) (hk : k < N) (hl : Cond.fieldLink own index (T k).1 (T k).2.1 (T k).2.2.1 ∈ lw_all) {v : Value} (hv : fs[k]? = some v) (hdg : decode cc pc = .ok (.getfield index, 3))
    (kk : W p l e R s m args below meth c H locs cells slots Q (F0 m (pc + 3) ls (v :: rest))) : W p l e R s m args below meth c H locs cells slots Q (F0 m pc ls (.ref a :: rest)) :=
  va_get S.1 S.2.1 S.2.2.2.2 hin S.2.2.2.1 hK hP q0 he hc k hk (S.2.2.2.2 _ hl) (fun _ h => h) hv hdg kk
theorem g_put (S : CallFix p m c cc nL s args lw_all own) (hK : va_K D vwCl (gTys D) s) (hP : va_P D vwCl ws H) (hD : va_D A ws) {H0 : Heap} (hS : va_S A H0 H locs) {q0 a ci N index : Nat} {fs : List Value} {C : String} {T : u_T} (he : ws[q0]? = some (a, .inr (ci, fs))) (hc : vwCl[ci]? = some (C, T, N)) (hin : ∀ w ∈ u_ws C T N, w ∈ lw_all) {ty0 : Nat → FieldType} (hty : ∀ k, k < N → parseFieldDescriptor (T k).2.2.1 = some (ty0 k)) (hnm : ∀ a, a < N → ∀ b, b < N → a ≠ b → (T a).2.1 ≠ (T b).2.1) (k : Nat) (hk : k < N) (hl : Cond.fieldLink own index (T k).1 (T k).2.1 (T k).2.2.1 ∈ lw_all) (hfin : (T k).2.2.2 = false) {v : Value} (hn : narrow (ty0 k) v = v) (hfit : fits (ty0 k) v = true) (hlen : k < fs.length) (hdg : decode cc pc = .ok (.putfield index, 3))
    (kk : ∀ (w1 : va_W) (H1 : Heap) (locs1 : List Loc), w1 = ws.set q0 (a, .inr (ci, fs.set k v)) → va_P D vwCl w1 H1 → va_D A w1 → va_S A H0 H1 locs1 → W p l e R s m args below meth c H1 locs1 cells slots Q (F0 m (pc + 3) ls rest)) : W p l e R s m args below meth c H locs cells slots Q (F0 m pc ls (v :: .ref a :: rest)) :=
  va_put S.1 S.2.1 S.2.2.2.2 hin ty0 hty hnm S.2.2.2.1 hK hP hD hS q0 he hc k hk (S.2.2.2.2 _ hl) (fun _ h => h) hfin (hty k hk) hn hfit hlen hdg (fun H1 locs1 a b c => kk _ H1 locs1 rfl a b c)
theorem g_putF (S : CallFix p m c cc nL s args lw_all own) (hin2 : meth.name = "<init>") (hK : va_K D vwCl (gTys D) s) (hP : va_P D vwCl ws H) (hD : va_D A ws) {H0 : Heap} (hS : va_S A H0 H locs) {q0 a ci N index : Nat} {fs : List Value} {C : String} {T : u_T} (he : ws[q0]? = some (a, .inr (ci, fs))) (hc : vwCl[ci]? = some (C, T, N)) (hin : ∀ w ∈ u_ws C T N, w ∈ lw_all) {ty0 : Nat → FieldType} (hty : ∀ k, k < N → parseFieldDescriptor (T k).2.2.1 = some (ty0 k)) (hnm : ∀ a, a < N → ∀ b, b < N → a ≠ b → (T a).2.1 ≠ (T b).2.1) (k : Nat) (hk : k < N) (hl : Cond.fieldLink own index (T k).1 (T k).2.1 (T k).2.2.1 ∈ lw_all) (hfin : (T k).2.2.2 = true) (hdecl : (T k).1 = own) {v : Value} (hn : narrow (ty0 k) v = v) (hfit : fits (ty0 k) v = true) (hlen : k < fs.length) (hdg : decode cc pc = .ok (.putfield index, 3))
    (kk : ∀ (w1 : va_W) (H1 : Heap) (locs1 : List Loc), w1 = ws.set q0 (a, .inr (ci, fs.set k v)) → va_P D vwCl w1 H1 → va_D A w1 → va_S A H0 H1 locs1 → W p l e R s m args below meth c H1 locs1 cells slots Q (F0 m (pc + 3) ls rest)) : W p l e R s m args below meth c H locs cells slots Q (F0 m pc ls (v :: .ref a :: rest)) :=
  va_putF S.1 S.2.1 S.2.2.2.2 hin ty0 hty hnm S.2.2.2.1 hK hP hD hS q0 he hc k hk (S.2.2.2.2 _ hl) (fun _ h => h) hfin hin2 hdecl (hty k hk) hn hfit hlen hdg (fun H1 locs1 a b c => kk _ H1 locs1 rfl a b c)
theorem g_iald (S : CallFix p m c cc nL s args lw_all own) (hK : va_K D vwCl (gTys D) s) (hP : va_P D vwCl ws H) {q0 a n : Nat} {f : Nat → Int32} (ha : ws[q0]? = some (a, .inl (D.1 100, n, .inl f))) {i : Int32} (hin : vp_in i n) (hdg : decode cc pc = .ok (.iaload, 1))
    (kk : W p l e R s m args below meth c H locs cells slots Q (F0 m (pc + 1) ls (.int (f i.toNatClampNeg) :: rest))) : W p l e R s m args below meth c H locs cells slots Q (F0 m pc ls (.int i :: .ref a :: rest)) :=
  va_iald S.1 S.2.1 hK hP q0 0 ha rfl hin hdg kk
theorem g_bald (S : CallFix p m c cc nL s args lw_all own) (hK : va_K D vwCl (gTys D) s) (hP : va_P D vwCl ws H) {q0 a n : Nat} {f : Nat → Int32} (ha : ws[q0]? = some (a, .inl (D.1 101, n, .inl f))) {i : Int32} (hin : vp_in i n) (hdg : decode cc pc = .ok (.baload, 1))
    (kk : W p l e R s m args below meth c H locs cells slots Q (F0 m (pc + 1) ls (.int (f i.toNatClampNeg) :: rest))) : W p l e R s m args below meth c H locs cells slots Q (F0 m pc ls (.int i :: .ref a :: rest)) :=
  va_bald S.1 S.2.1 hK hP q0 1 ha rfl hin hdg kk
theorem g_zald (S : CallFix p m c cc nL s args lw_all own) (hK : va_K D vwCl (gTys D) s) (hP : va_P D vwCl ws H) {q0 a n : Nat} {f : Nat → Int32} (ha : ws[q0]? = some (a, .inl (D.1 102, n, .inl f))) {i : Int32} (hin : vp_in i n) (hdg : decode cc pc = .ok (.baload, 1))
    (kk : W p l e R s m args below meth c H locs cells slots Q (F0 m (pc + 1) ls (.int (f i.toNatClampNeg) :: rest))) : W p l e R s m args below meth c H locs cells slots Q (F0 m pc ls (.int i :: .ref a :: rest)) :=
  va_zald S.1 S.2.1 hK hP q0 2 ha rfl hin hdg kk
theorem g_alen (S : CallFix p m c cc nL s args lw_all own) (hK : va_K D vwCl (gTys D) s) (hP : va_P D vwCl ws H) {q0 a : Nat} {cA : ClassId} {x : vp_A} (ha : ws[q0]? = some (a, .inl (cA, x))) (t0 : Nat) {ty : FieldType} (ht : (gTys D)[t0]? = some (cA, ty)) {v : Int32} (hv : Int32.ofNat x.1 = v) (hdg : decode cc pc = .ok (.arraylength, 1))
    (kk : W p l e R s m args below meth c H locs cells slots Q (F0 m (pc + 1) ls (.int v :: rest))) : W p l e R s m args below meth c H locs cells slots Q (F0 m pc ls (.ref a :: rest)) :=
  va_alen S.1 S.2.1 hK hP q0 t0 ha ht hv hdg kk
theorem g_iast (S : CallFix p m c cc nL s args lw_all own) (hK : va_K D vwCl (gTys D) s) (hP : va_P D vwCl ws H) (hD : va_D A ws) {H0 : Heap} (hS : va_S A H0 H locs) {q0 a n : Nat} {f : Nat → Int32} (ha : ws[q0]? = some (a, .inl (D.1 100, n, .inl f))) {i x : Int32} (hin : vp_in i n) (hdg : decode cc pc = .ok (.iastore, 1))
    (kk : ∀ (w1 : va_W) (H1 : Heap) (locs1 : List Loc), w1 = ws.set q0 (a, .inl (D.1 100, n, .inl (upd f i.toNatClampNeg x))) → va_P D vwCl w1 H1 → va_D A w1 → va_S A H0 H1 locs1 → W p l e R s m args below meth c H1 locs1 cells slots Q (F0 m (pc + 1) ls rest)) : W p l e R s m args below meth c H locs cells slots Q (F0 m pc ls (.int x :: .int i :: .ref a :: rest)) :=
  va_iast S.1 S.2.1 hK hP hD hS q0 0 ha rfl hin hdg (fun H1 locs1 a b c => kk _ H1 locs1 rfl a b c)
theorem g_bast (S : CallFix p m c cc nL s args lw_all own) (hK : va_K D vwCl (gTys D) s) (hP : va_P D vwCl ws H) (hD : va_D A ws) {H0 : Heap} (hS : va_S A H0 H locs) {q0 a n : Nat} {f : Nat → Int32} (ha : ws[q0]? = some (a, .inl (D.1 101, n, .inl f))) {i x : Int32} (hin : vp_in i n) (hdg : decode cc pc = .ok (.bastore, 1))
    (kk : ∀ (w1 : va_W) (H1 : Heap) (locs1 : List Loc), w1 = ws.set q0 (a, .inl (D.1 101, n, .inl (upd f i.toNatClampNeg (vp_nar .byte x)))) → va_P D vwCl w1 H1 → va_D A w1 → va_S A H0 H1 locs1 → W p l e R s m args below meth c H1 locs1 cells slots Q (F0 m (pc + 1) ls rest)) : W p l e R s m args below meth c H locs cells slots Q (F0 m pc ls (.int x :: .int i :: .ref a :: rest)) :=
  va_bast S.1 S.2.1 hK hP hD hS q0 1 ha rfl hin hdg (fun H1 locs1 a b c => kk _ H1 locs1 rfl a b c)
theorem g_zast (S : CallFix p m c cc nL s args lw_all own) (hK : va_K D vwCl (gTys D) s) (hP : va_P D vwCl ws H) (hD : va_D A ws) {H0 : Heap} (hS : va_S A H0 H locs) {q0 a n : Nat} {f : Nat → Int32} (ha : ws[q0]? = some (a, .inl (D.1 102, n, .inl f))) {i x : Int32} (hin : vp_in i n) (hdg : decode cc pc = .ok (.bastore, 1))
    (kk : ∀ (w1 : va_W) (H1 : Heap) (locs1 : List Loc), w1 = ws.set q0 (a, .inl (D.1 102, n, .inl (upd f i.toNatClampNeg (vp_nar .boolean x)))) → va_P D vwCl w1 H1 → va_D A w1 → va_S A H0 H1 locs1 → W p l e R s m args below meth c H1 locs1 cells slots Q (F0 m (pc + 1) ls rest)) : W p l e R s m args below meth c H locs cells slots Q (F0 m pc ls (.int x :: .int i :: .ref a :: rest)) :=
  va_zast S.1 S.2.1 hK hP hD hS q0 2 ha rfl hin hdg (fun H1 locs1 a b c => kk _ H1 locs1 rfl a b c)
/-! behind a call -/
theorem g_aft {V : Option Value} {Wp : va_W → Prop} {a : Array Value} {st0 st1 : List Value} {H0 : Heap} {mc ms : Nat} (hr : va_Run p l e R s m args below meth c H locs cells slots mc ms (F0 m pc ls st0) rest (gQ D A V Wp a) A) (hS : va_S A H0 H locs) (h1 : V.toList ++ rest = st1)
    (kk : ∀ (w1 : va_W) (H1 : Heap) (locs1 : List Loc), Wp w1 → va_P D vwCl w1 H1 → va_D A w1 → va_S A H0 H1 locs1 → W p l e R s m args below meth c H1 locs1 (cells + mc) (slots + ms) Q (F0 m (pc + 3) ls st1)) : W p l e R s m args below meth c H locs cells slots Q (F0 m pc ls st0) := by
  intro T hT X
  obtain ⟨v, st₀, t, T', L, h0, X', hL, e1, e2, ⟨⟨hv, w, hw, hP, hD⟩, hz, hk⟩, st⟩ := hr T hT X
  cases hv
  subst h1
  rw [h0] at hz hk
  obtain ⟨t2, a1, b1⟩ := kk w T'.heap (locs ++ L) hw (by rw [e1]; exact hP) hD
    ⟨Nat.le_trans hS.1 (by rw [e1]; exact hz), fun q h1 h2 => by rw [e1, hk q (Nat.lt_of_lt_of_le h1 hS.1) h2]; exact hS.2.1 q h1 h2, fun q hq => by
      rcases List.mem_append.mp hq with h | h
      · exact hS.2.2 q h
      · exact hL q h⟩ T' rfl X'
  exact ⟨t2, st t2 a1, b1⟩
theorem g_aftR {V : Option Value} {a : Array Value} {st0 st1 : List Value} {H0 : Heap} {mc ms : Nat} (hr : va_Run p l e R s m args below meth c H locs cells slots mc ms (F0 m pc ls st0) rest (gR V a) A) (hS : va_S A H0 H locs) (h1 : V.toList ++ rest = st1)
    (kk : ∀ (locs1 : List Loc), va_S A H0 H locs1 → W p l e R s m args below meth c H locs1 (cells + mc) (slots + ms) Q (F0 m (pc + 3) ls st1)) : W p l e R s m args below meth c H locs cells slots Q (F0 m pc ls st0) := by
  intro T hT X
  obtain ⟨v, st₀, t, T', L, h0, X', hL, e1, e2, ⟨hv, hh⟩, st⟩ := hr T hT X
  cases hv
  subst h1
  obtain ⟨t2, a1, b1⟩ := kk (locs ++ L) ⟨hS.1, hS.2.1, fun q hq => by
      rcases List.mem_append.mp hq with h | h
      · exact hS.2.2 q h
      · exact hL q h⟩ T' (by rw [e1, hh, h0]) X'
  exact ⟨t2, st t2 a1, b1⟩
/-! the four kinds of calls -/
variable {y : MethodName} {bytes : ByteArray} {maxL n index b mc ms : Nat} {C : String} {ret : Option FieldType} {rm : Room} {As : List Value} {Qc : Array Value → State → Outcome → State → Prop} {st0 : List Value}
theorem g_pre {av : List Value} (hK : va_K D vwCl (gTys D) s) (hP : va_P D vwCl ws H) (hD : va_D A ws) (hE : EV D A s s.heap) (hS : va_S A s.heap H locs) : ∀ U : State, U.heap = H → s.WarmedH U.vm → gPre D A av ws av.toArray U :=
  fun U hU hW => ⟨rfl, by rw [hU]; exact hP, va_K.moved hW.alike hK, hD, by rw [hU]; exact hE.warm hW hS⟩
/-- virtual, of a class of ours -/
theorem g_V (S : CallFix p m c cc nL s args lw_all own) (I : MI C y bytes maxL ret n) (L : Cond.methodLink own index y ∈ lw_all)
    (hM : Met l y (ws_ y bytes maxL ret) rm (gPre D A (.ref b :: As) ws) Qc mc ms A) (hK : va_K D vwCl (gTys D) s) (hP : va_P D vwCl ws H) (hD : va_D A ws) (hE : EV D A s s.heap) (hS : va_S A s.heap H locs)
    {q0 ci N : Nat} {fs : List Value} {T : u_T} (he : ws[q0]? = some (b, .inr (ci, fs))) (hc : vwCl[ci]? = some (C, T, N)) (hst : st0 = As.reverse ++ .ref b :: rest) (hn : As.length = n) (hls : ls.size = nL) (hW : (rest.map fun v => v.category).sum ≤ 8)
    (hrc : rm.cells = mc) (hrs : rm.slots = ms) (hR : rm.frames + 1 ≤ R.frames ∧ 8 + (maxL + 11) + rm.locals ≤ R.locals) (hf : cells + mc ≤ R.cells ∧ slots + ms ≤ R.slots) (hdg : decode cc pc = .ok (.invokevirtual index, 3)) :
    va_Run p l e R s m args below meth c H locs cells slots mc ms (F0 m pc ls st0) rest (Qc (Value.ref b :: As).toArray) A := by
  obtain ⟨i1, i2, i3, i4, i5⟩ := I
  have hts := S.2.2.2.2
  refine va_runV (As := As) (rest := rest) (index := index) (n := n) S hM ⟨callB_of n hts (ws_good i4) rfl hrc hrs (by rw [i5.1]; exact hts _ i3) (hts _ L) i5.2 hR, hts _ i1, hts _ i2⟩ ⟨gPre.blind, va_recv hK hP hc he, g_pre hK hP hD hE hS⟩ rfl hn hls hst (lv_room hW) hdg hf
/-- static, in the class itself or from another one by a plain link -/
theorem g_St (S : CallFix p m c cc nL s args lw_all own) (I : MS y bytes maxL ret n) (L : Cond.methodLink own index y ∈ lw_all)
    (hM : Met l y (ws_ y bytes maxL ret) rm (gPre D A As ws) Qc mc ms A) (hK : va_K D vwCl (gTys D) s) (hP : va_P D vwCl ws H) (hD : va_D A ws) (hE : EV D A s s.heap) (hS : va_S A s.heap H locs)
    (hst : st0 = As.reverse ++ rest) (hn : As.length = n) (hls : ls.size = nL) (hW : (rest.map fun v => v.category).sum ≤ 8)
    (hrc : rm.cells = mc) (hrs : rm.slots = ms) (hR : rm.frames + 1 ≤ R.frames ∧ 8 + (maxL + 11) + rm.locals ≤ R.locals) (hf : cells + mc ≤ R.cells ∧ slots + ms ≤ R.slots) (hdg : decode cc pc = .ok (.invokestatic index, 3)) :
    va_Run p l e R s m args below meth c H locs cells slots mc ms (F0 m pc ls st0) rest (Qc As.toArray) A := by
  obtain ⟨i1, i3, i4, i5⟩ := I
  have hts := S.2.2.2.2
  exact va_runS (As := As) (rest := rest) (index := index) (n := n) S hM ⟨callB_of n hts (ws_good i4) rfl hrc hrs (hts _ i3) (hts _ L) i5 hR, hts _ i1⟩ ⟨gPre.blind, g_pre hK hP hD hE hS⟩ rfl hn hls hst (lv_room hW) hdg hf
/-- static, of a nest mate -/
theorem g_SN (S : CallFix p m c cc nL s args lw_all own) (I : MS y bytes maxL ret n) {host : String} (L : (own, index, y, host) ∈ nestW)
    (hM : Met l y (ws_ y bytes maxL ret) rm (gPre D A As ws) Qc mc ms A) (hK : va_K D vwCl (gTys D) s) (hP : va_P D vwCl ws H) (hD : va_D A ws) (hE : EV D A s s.heap) (hS : va_S A s.heap H locs)
    (hst : st0 = As.reverse ++ rest) (hn : As.length = n) (hls : ls.size = nL) (hW : (rest.map fun v => v.category).sum ≤ 8)
    (hrc : rm.cells = mc) (hrs : rm.slots = ms) (hR : rm.frames + 1 ≤ R.frames ∧ 8 + (maxL + 11) + rm.locals ≤ R.locals) (hf : cells + mc ≤ R.cells ∧ slots + ms ≤ R.slots) (hdg : decode cc pc = .ok (.invokestatic index, 3)) :
    va_Run p l e R s m args below meth c H locs cells slots mc ms (F0 m pc ls st0) rest (Qc As.toArray) A := by
  obtain ⟨i1, i3, i4, i5⟩ := I
  have hts := S.2.2.2.2
  exact va_runSN (As := As) (rest := rest) (index := index) (n := n) (host := host) S hM ⟨va_cnB n hts (ws_good i4) rfl hrc hrs (hE.1 _ L) (hts _ i3) i5 hR, hts _ i1, trivial⟩ ⟨gPre.blind, g_pre hK hP hD hE hS⟩ rfl hn hls hst (lv_room hW) hdg hf
/-- a constructor, by a plain link -/
theorem g_I (S : CallFix p m c cc nL s args lw_all own) (I : MC y bytes maxL n) (L : Cond.methodLink own index y ∈ lw_all)
    (hM : Met l y (ws_ y bytes maxL none) rm (gPre D A (.ref b :: As) ws) Qc mc ms A) (hK : va_K D vwCl (gTys D) s) (hP : va_P D vwCl ws H) (hD : va_D A ws) (hE : EV D A s s.heap) (hS : va_S A s.heap H locs)
    (hst : st0 = As.reverse ++ .ref b :: rest) (hn : As.length = n) (hls : ls.size = nL) (hW : (rest.map fun v => v.category).sum ≤ 8)
    (hrc : rm.cells = mc) (hrs : rm.slots = ms) (hR : rm.frames + 1 ≤ R.frames ∧ 8 + (maxL + 11) + rm.locals ≤ R.locals) (hf : cells + mc ≤ R.cells ∧ slots + ms ≤ R.slots) (hdg : decode cc pc = .ok (.invokespecial index, 3)) :
    va_Run p l e R s m args below meth c H locs cells slots mc ms (F0 m pc ls st0) rest (Qc (Value.ref b :: As).toArray) A := by
  obtain ⟨i1, i3, i4, i5, i6⟩ := I
  have hts := S.2.2.2.2
  exact va_runI (As := As) (rest := rest) (index := index) (n := n) S hM (cwI n hts (ws_good i4) rfl hrc hrs (hts _ i3) (hts _ L) (hts _ i1) i5 i6 hR) ⟨gPre.blind, g_pre hK hP hD hE hS⟩ rfl hn hls hst (lv_room hW) hdg hf
/-- a constructor of a nest mate -/
theorem g_IN (S : CallFix p m c cc nL s args lw_all own) (I : MC y bytes maxL n) {host : String} (L : (own, index, y, host) ∈ nestW)
    (hM : Met l y (ws_ y bytes maxL none) rm (gPre D A (.ref b :: As) ws) Qc mc ms A) (hK : va_K D vwCl (gTys D) s) (hP : va_P D vwCl ws H) (hD : va_D A ws) (hE : EV D A s s.heap) (hS : va_S A s.heap H locs)
    (hst : st0 = As.reverse ++ .ref b :: rest) (hn : As.length = n) (hls : ls.size = nL) (hW : (rest.map fun v => v.category).sum ≤ 8)
    (hrc : rm.cells = mc) (hrs : rm.slots = ms) (hR : rm.frames + 1 ≤ R.frames ∧ 8 + (maxL + 11) + rm.locals ≤ R.locals) (hf : cells + mc ≤ R.cells ∧ slots + ms ≤ R.slots) (hdg : decode cc pc = .ok (.invokespecial index, 3)) :
    va_Run p l e R s m args below meth c H locs cells slots mc ms (F0 m pc ls st0) rest (Qc (Value.ref b :: As).toArray) A := by
  obtain ⟨i1, i3, i4, i5, i6⟩ := I
  have hts := S.2.2.2.2
  exact va_runIN (As := As) (rest := rest) (index := index) (n := n) (host := host) S hM ⟨va_cnB n hts (ws_good i4) rfl hrc hrs (hE.1 _ L) (hts _ i3) i6 hR, i5, hts _ i1⟩ ⟨gPre.blind, g_pre hK hP hD hE hS⟩ rfl hn hls hst (lv_room hW) hdg hf
end GW
/-! a method from its entry -/
theorem g_met {l : Launch} {y : MethodName} {cc : ByteArray} {maxL mc ms : Nat} {ret : Option FieldType} {rm : Room} {D : va_G} {A : Nat → Prop} {av : List Value} {ws : va_W} {Qc : Array Value → State → Outcome → State → Prop} (lv : List (Nat × Value)) (hy : plainFor y = true) (hlen : (lg_sl av).length ≤ maxL) (hlv : lv_args 0 av = lv)
    (body : ∀ (p : Program) (e : Env) (s : State) (m : MethodId) (args : Array Value) (below : List Frame) (meth : Method) (c : Code) (ls : Array Slot), CallFix p m c cc maxL s args lw_all y.cls → va_K D vwCl (gTys D) s → va_P D vwCl ws s.heap → va_D A ws → EV D A s s.heap → va_S A s.heap s.heap [] → meth.sig.returnType = ret → meth.locks = false → meth.name = y.name → lv_has ls maxL lv →
      W p l e rm s m args below meth c s.heap [] 0 0 (MQ below Qc args s mc ms A) (F0 m 0 ls [])) : Met l y (ws_ y cc maxL ret) rm (gPre D A av ws) Qc mc ms A := by
  refine va_MetF (cc := cc) (maxL := maxL) (ret := ret) hy rfl ?_
  intro p e s m args below meth c s₁ B hml hv
  obtain ⟨rfl, hP, hK, hD, hE⟩ := hv
  have hts0 := atoms_spec (ws := ws_ y cc maxL ret) B.pre
  have hts : ∀ w ∈ lw_all, w.before av.toArray s = true := fun w h => hts0 w (List.mem_cons_of_mem _ h)
  have hl := lv_entry av (n := maxL) hlen
  rw [hlv] at hl
  rw [lg_entry_eq]
  exact body p e s m _ below meth c _ ⟨B.exec, B.bytes, hml, findClass_of_methodNamed B.named, hts⟩ hK hP hD hE va_S.rf B.returns B.notSynchronized (name_of_methodNamed B.named B.method).1 hl
/-! its ends -/
section GE
variable {p : Program} {l : Launch} {e : Env} {R : Room} {s : State} {m : MethodId} {args : Array Value} {below : List Frame} {meth : Method} {c : Code} {H : Heap} {locs : List Loc} {cells slots : Nat}
variable {cc : ByteArray} {nL pc : Nat} {ls : Array Slot} {D : va_G} {A : Nat → Prop} {ws : va_W} {own : String} {Wp : va_W → Prop} {V : Option Value}
theorem g_iret (S : CallFix p m c cc nL s args lw_all own) (hr : meth.sig.returnType = some .int) (hlk : meth.locks = false) (hP : va_P D vwCl ws H) (hD : va_D A ws) (hS : va_S A s.heap H locs) {v : Int32} (hV : V = some (.int v)) (hw : Wp ws) (hdg : decode cc pc = .ok (.ireturn, 1)) :
    W p l e R s m args below meth c H locs cells slots (MQ below (gQ D A V Wp) args s cells slots A) (F0 m pc ls [.int v]) := by
  subst hV
  exact W.iret S.1 S.2.1 hr (fun t ht _ => ⟨⟨rfl, ws, hw, by rw [ht]; exact hP, hD⟩, hS.F ht⟩) hS.2.2 hdg hlk
theorem g_zret (S : CallFix p m c cc nL s args lw_all own) (hr : meth.sig.returnType = some .boolean) (hlk : meth.locks = false) (hP : va_P D vwCl ws H) (hD : va_D A ws) (hS : va_S A s.heap H locs) {v : Int32} (hn : narrow .boolean (.int v) = .int v) (hV : V = some (.int v)) (hw : Wp ws) (hdg : decode cc pc = .ok (.ireturn, 1)) :
    W p l e R s m args below meth c H locs cells slots (MQ below (gQ D A V Wp) args s cells slots A) (F0 m pc ls [.int v]) := by
  subst hV
  exact W.zret S.1 S.2.1 hr hn (fun t ht _ => ⟨⟨rfl, ws, hw, by rw [ht]; exact hP, hD⟩, hS.F ht⟩) hS.2.2 hdg hlk
theorem g_vret (S : CallFix p m c cc nL s args lw_all own) (hr : meth.sig.returnType = none) (hlk : meth.locks = false) (hP : va_P D vwCl ws H) (hD : va_D A ws) (hS : va_S A s.heap H locs) (hV : V = none) (hw : Wp ws) (hdg : decode cc pc = .ok (.return_, 1)) :
    W p l e R s m args below meth c H locs cells slots (MQ below (gQ D A V Wp) args s cells slots A) (F0 m pc ls []) := by
  subst hV
  exact W.vret S.1 S.2.1 hr (fun t ht _ => ⟨⟨rfl, ws, hw, by rw [ht]; exact hP, hD⟩, hS.F ht⟩) hS.2.2 hdg hlk
theorem g_aret (S : CallFix p m c cc nL s args lw_all own) {C : String} (hr : meth.sig.returnType = some (.object C)) (hlk : meth.locks = false) (hP : va_P D vwCl ws H) (hD : va_D A ws) (hS : va_S A s.heap H locs) {a : Nat} (hV : V = some (.ref a)) (hw : Wp ws) (hdg : decode cc pc = .ok (.areturn, 1)) :
    W p l e R s m args below meth c H locs cells slots (MQ below (gQ D A V Wp) args s cells slots A) (F0 m pc ls [.ref a]) := by
  subst hV
  exact W.aret S.1 S.2.1 hr (Or.inl ⟨_, rfl⟩) (Or.inr ⟨_, rfl⟩) (fun t ht _ => ⟨⟨rfl, ws, hw, by rw [ht]; exact hP, hD⟩, hS.F ht⟩) hS.2.2 hdg hlk
theorem g_iretR (S : CallFix p m c cc nL s args lw_all own) (hr : meth.sig.returnType = some .int) (hlk : meth.locks = false) (hS : va_S A s.heap s.heap locs) {v : Int32} (hV : V = some (.int v)) (hdg : decode cc pc = .ok (.ireturn, 1)) :
    W p l e R s m args below meth c s.heap locs cells slots (MQ below (gR V) args s cells slots A) (F0 m pc ls [.int v]) := by
  subst hV
  exact W.iret S.1 S.2.1 hr (fun t ht _ => ⟨rfl, ht⟩) hS.2.2 hdg hlk
theorem g_zretR (S : CallFix p m c cc nL s args lw_all own) (hr : meth.sig.returnType = some .boolean) (hlk : meth.locks = false) (hS : va_S A s.heap s.heap locs) {v : Int32} (hn : narrow .boolean (.int v) = .int v) (hV : V = some (.int v)) (hdg : decode cc pc = .ok (.ireturn, 1)) :
    W p l e R s m args below meth c s.heap locs cells slots (MQ below (gR V) args s cells slots A) (F0 m pc ls [.int v]) := by
  subst hV
  exact W.zret S.1 S.2.1 hr hn (fun t ht _ => ⟨rfl, ht⟩) hS.2.2 hdg hlk
theorem g_lretR (S : CallFix p m c cc nL s args lw_all own) (hr : meth.sig.returnType = some .long) (hlk : meth.locks = false) (hS : va_S A s.heap s.heap locs) {v : Int64} (hV : V = some (.long v)) (hdg : decode cc pc = .ok (.lreturn, 1)) :
    W p l e R s m args below meth c s.heap locs cells slots (MQ below (gR V) args s cells slots A) (F0 m pc ls [.long v]) := by
  subst hV
  exact W.lret S.1 S.2.1 hr (fun t ht _ => ⟨rfl, ht⟩) hS.2.2 hdg hlk
theorem g_aretR (S : CallFix p m c cc nL s args lw_all own) {C : String} (hr : meth.sig.returnType = some (.object C)) (hlk : meth.locks = false) (hS : va_S A s.heap s.heap locs) {a : Nat} (hV : V = some (.ref a)) (hdg : decode cc pc = .ok (.areturn, 1)) :
    W p l e R s m args below meth c s.heap locs cells slots (MQ below (gR V) args s cells slots A) (F0 m pc ls [.ref a]) := by
  subst hV
  exact W.aret S.1 S.2.1 hr (Or.inl ⟨_, rfl⟩) (Or.inr ⟨_, rfl⟩) (fun t ht _ => ⟨rfl, ht⟩) hS.2.2 hdg hlk
end GE
section GZ
variable {p : Program} {l : Launch} {e : Env} {R : Room} {s : State} {m : MethodId} {args : Array Value} {below : List Frame} {meth : Method} {c : Code} {H : Heap} {locs : List Loc} {cells slots : Nat} {Q : State → Prop}
variable {cc : ByteArray} {nL pc : Nat} {ls : Array Slot} {rest : List Value} {D : va_G} {A : Nat → Prop} {ws : va_W} {own : String}
theorem g_aft0 {V : Option Value} {Wp : va_W → Prop} {a : Array Value} {st0 st1 : List Value} {H0 : Heap} (hr : va_Run p l e R s m args below meth c H locs cells slots 0 0 (F0 m pc ls st0) rest (gQ D A V Wp a) A) (hS : va_S A H0 H locs) (h1 : V.toList ++ rest = st1)
    (kk : ∀ (w1 : va_W) (H1 : Heap) (locs1 : List Loc), Wp w1 → va_P D vwCl w1 H1 → va_D A w1 → va_S A H0 H1 locs1 → W p l e R s m args below meth c H1 locs1 cells slots Q (F0 m (pc + 3) ls st1)) : W p l e R s m args below meth c H locs cells slots Q (F0 m pc ls st0) := g_aft hr hS h1 kk
theorem g_aftR0 {V : Option Value} {a : Array Value} {st0 st1 : List Value} {H0 : Heap} (hr : va_Run p l e R s m args below meth c H locs cells slots 0 0 (F0 m pc ls st0) rest (gR V a) A) (hS : va_S A H0 H locs) (h1 : V.toList ++ rest = st1)
    (kk : ∀ (locs1 : List Loc), va_S A H0 H locs1 → W p l e R s m args below meth c H locs1 cells slots Q (F0 m (pc + 3) ls st1)) : W p l e R s m args below meth c H locs cells slots Q (F0 m pc ls st0) := g_aftR hr hS h1 kk
/-! truth values as ints -/
abbrev b2i (b : Bool) : Int32 := bif b then 1 else 0
abbrev tb (x : Int32) : Bool := x != 0
theorem b2i_nar (b : Bool) : narrow .boolean (.int (b2i b)) = .int (b2i b) := by cases b <;> decide
theorem b2i_fit (b : Bool) : fits .boolean (.int (b2i b)) = true := by cases b <;> decide
theorem g_bifeq (S : CallFix p m c cc nL s args lw_all own) {b : Bool} {off : Int} {tgt : Nat} (hdg : decode cc pc = .ok (.ifCond .eq off, 3)) (ht : (pc : Int) + off = (tgt : Int))
    (kt : b = false → W p l e R s m args below meth c H locs cells slots Q (F0 m tgt ls rest)) (kf : b = true → W p l e R s m args below meth c H locs cells slots Q (F0 m (pc + 3) ls rest)) : W p l e R s m args below meth c H locs cells slots Q (F0 m pc ls (.int (b2i b) :: rest)) := by
  refine lv_if_eq S.1 S.2.1 hdg ht (fun h => kt ?_) (fun h => kf ?_)
  · cases b
    · rfl
    · exact absurd h (by decide)
  · cases b
    · exact absurd rfl h
    · rfl
theorem g_bifne (S : CallFix p m c cc nL s args lw_all own) {b : Bool} {off : Int} {tgt : Nat} (hdg : decode cc pc = .ok (.ifCond .ne off, 3)) (ht : (pc : Int) + off = (tgt : Int))
    (kt : b = true → W p l e R s m args below meth c H locs cells slots Q (F0 m tgt ls rest)) (kf : b = false → W p l e R s m args below meth c H locs cells slots Q (F0 m (pc + 3) ls rest)) : W p l e R s m args below meth c H locs cells slots Q (F0 m pc ls (.int (b2i b) :: rest)) := by
  refine lv_if_ne S.1 S.2.1 hdg ht (fun h => kt ?_) (fun h => kf ?_)
  · cases b
    · exact absurd rfl h
    · rfl
  · cases b
    · rfl
    · exact absurd h (by decide)
end GZ
/-! blocks: C lies in the world w from place k on -/
def Blk (w : va_W) (k : Nat) (C : va_W) : Prop := ∀ (i : Nat) (x : Nat × va_E), C[i]? = some x → w[k + i]? = some x
def Same (w w' : va_W) (k n : Nat) : Prop := w'.length = w.length ∧ ∀ j : Nat, (j < k ∨ k + n ≤ j) → w'[j]? = w[j]?
theorem Blk.sub {w C : va_W} {k : Nat} (h : Blk w k C) (off : Nat) {c : va_W} (hc : (C.drop off).take c.length = c) : Blk w (k + off) c := by
  intro i x hx
  have hi : i < c.length := (List.getElem?_eq_some_iff.mp hx).1
  rw [← hc, List.getElem?_take_of_lt hi, List.getElem?_drop] at hx
  rw [Nat.add_assoc]
  exact h _ _ hx
theorem Blk.set {w C C' : va_W} {k : Nat} (h : Blk w k C) (i : Nat) {x : Nat × va_E} {w' : va_W} (hw : w' = w.set (k + i) x) (hi : i < C.length) (hC : C.set i x = C') : Blk w' k C' := by
  subst hw; subst hC
  intro j y hj
  have hi' : w[k + i]? = some C[i] := h i _ (List.getElem?_eq_getElem hi)
  have hl : k + i < w.length := (List.getElem?_eq_some_iff.mp hi').1
  by_cases e : j = i
  · subst e
    rw [List.getElem?_set_self hi] at hj
    rw [List.getElem?_set_self hl]
    exact hj
  · rw [List.getElem?_set_ne (fun q => e q.symm)] at hj
    rw [List.getElem?_set_ne (by omega)]
    exact h j y hj
theorem Same.rf {w : va_W} {k n : Nat} : Same w w k n := ⟨rfl, fun _ _ => rfl⟩
theorem Same.set {w w0 w' : va_W} {k n : Nat} (h : Same w0 w k n) (i : Nat) {x : Nat × va_E} (hw : w' = w.set (k + i) x) (hi : i < n) : Same w0 w' k n := by
  subst hw
  refine ⟨by rw [List.length_set]; exact h.1, fun j hj => ?_⟩
  rw [List.getElem?_set_ne (by omega)]
  exact h.2 j hj
theorem Same.call {w w0 w' : va_W} {k n : Nat} (h : Same w0 w k n) (off : Nat) {n' : Nat} (h1 : Same w w' (k + off) n') (hi : off + n' ≤ n) : Same w0 w' k n :=
  ⟨h1.1.trans h.1, fun j hj => (h1.2 j (by omega)).trans (h.2 j hj)⟩
theorem Same.trans {w w0 w' : va_W} {k n : Nat} (h : Same w0 w k n) (h1 : Same w w' k n) : Same w0 w' k n := ⟨h1.1.trans h.1, fun j hj => (h1.2 j hj).trans (h.2 j hj)⟩
theorem Blk.splice {w w' C C' c' : va_W} {k : Nat} (h : Blk w k C) (off : Nat) (h1 : Blk w' (k + off) c') (hs : Same w w' (k + off) c'.length) (hC : C.take off ++ (c' ++ C.drop (off + c'.length)) = C') (hl : off ≤ C.length) : Blk w' k C' := by
  subst hC
  intro i x hx
  have h2 : (C.take off).length = off := by rw [List.length_take]; omega
  by_cases g1 : i < off
  · rw [List.getElem?_append_left (by omega), List.getElem?_take_of_lt g1] at hx
    rw [hs.2 (k + i) (by omega)]
    exact h i x hx
  · rw [List.getElem?_append_right (by omega), h2] at hx
    by_cases g2 : i - off < c'.length
    · rw [List.getElem?_append_left g2] at hx
      have h3 := h1 _ _ hx
      rw [show k + off + (i - off) = k + i by omega] at h3
      exact h3
    · rw [List.getElem?_append_right (by omega), List.getElem?_drop] at hx
      rw [hs.2 (k + i) (by omega)]
      have h3 := h _ _ hx
      rw [show k + (off + c'.length + (i - off - c'.length)) = k + i by omega] at h3
      exact h3
theorem Blk.other {w w' C : va_W} {k k2 n2 : Nat} (h : Blk w k C) (hs : Same w w' k2 n2) (hd : k + C.length ≤ k2 ∨ k2 + n2 ≤ k) : Blk w' k C := by
  intro i x hx
  have hi : i < C.length := (List.getElem?_eq_some_iff.mp hx).1
  rw [hs.2 (k + i) (by omega)]
  exact h i x hx
theorem Blk.app {w C1 C2 : va_W} {k : Nat} (h1 : Blk w k C1) (h2 : Blk w (k + C1.length) C2) : Blk w k (C1 ++ C2) := by
  intro i x hx
  by_cases g : i < C1.length
  · rw [List.getElem?_append_left g] at hx
    exact h1 i x hx
  · rw [List.getElem?_append_right (by omega)] at hx
    have h3 := h2 _ _ hx
    rw [show k + C1.length + (i - C1.length) = k + i by omega] at h3
    exact h3
/-! the pictures: what cells an object's block holds; α tells a place's address -/
abbrev cI (D : va_G) (α : Nat → Nat) (k n : Nat) (f : Nat → Int32) : Nat × va_E := (α k, .inl (D.1 100, n, .inl f))
abbrev cB (D : va_G) (α : Nat → Nat) (k n : Nat) (f : Nat → Int32) : Nat × va_E := (α k, .inl (D.1 101, n, .inl f))
abbrev cZ (D : va_G) (α : Nat → Nat) (k n : Nat) (f : Nat → Int32) : Nat × va_E := (α k, .inl (D.1 102, n, .inl f))
abbrev cO (α : Nat → Nat) (k ci : Nat) (fs : List Value) : Nat × va_E := (α k, .inr (ci, fs))
abbrev rf (α : Nat → Nat) (k : Nat) : Value := .ref (α k)
def cBytes (D : va_G) (α : Nat → Nat) (k : Nat) (n : Nat) (f : Nat → Int32) (len : Int32) : va_W := [cO α k 1 [rf α (k + 1), .int len],
  cB D α (k + 1) n f]
def cRing (D : va_G) (α : Nat → Nat) (k : Nat) (r : Nat) (f : Nat → Int32) (ad : Int32) : va_W := [cO α k 5 [.int (nI r), rf α (k + 1), .int ad],
  cI D α (k + 1) (4 * r) f]
def cSetup (D : va_G) (α : Nat → Nat) (k : Nat) (nums : Nat → Int32) (bNames : Nat → Int32) (pNames : Nat → Int32) (fBoats : Nat → Int32) (nB : Int32) (nP : Int32) : va_W := [cO α k 7 [rf α (k + 1), rf α (k + 2), rf α (k + 3), rf α (k + 4), .int nB, .int nP],
  cI D α (k + 1) 10 nums,
  cI D α (k + 2) 6 bNames,
  cI D α (k + 3) 20 pNames,
  cI D α (k + 4) 20 fBoats]
def cFleet (D : va_G) (α : Nat → Nat) (k : Nat) (boatO : Nat → Int32) (seaO : Nat → Int32) (faultO : Nat → Int32) (daysO : Nat → Int32) (backB : Nat → Int32) (sailB : Nat → Int32) : va_W := [cO α k 2 [rf α (k + 1), rf α (k + 2), rf α (k + 3), rf α (k + 4), rf α (k + 5), rf α (k + 6)],
  cI D α (k + 1) 20 boatO,
  cI D α (k + 2) 20 seaO,
  cI D α (k + 3) 20 faultO,
  cI D α (k + 4) 20 daysO,
  cI D α (k + 5) 6 backB,
  cI D α (k + 6) 6 sailB]
def cSticks (D : va_G) (α : Nat → Nat) (k : Nat) (plc : Nat → Int32) (car : Nat → Int32) (bnd : Nat → Int32) (bsk : Nat → Int32) (dyL : Nat → Int32) (rsn : Nat → Int32) : va_W := [cO α k 9 [rf α (k + 1), rf α (k + 2), rf α (k + 3), rf α (k + 4), rf α (k + 5), rf α (k + 6)],
  cI D α (k + 1) 20 plc,
  cI D α (k + 2) 20 car,
  cI D α (k + 3) 20 bnd,
  cI D α (k + 4) 20 bsk,
  cI D α (k + 5) 20 dyL,
  cI D α (k + 6) 20 rsn]
def cState (D : va_G) (α : Nat → Nat) (k : Nat) (day : Int32) (votes : Int32) (isOpen : Int32) (baskets : Int32) (lays : Int32) (recs : Int32) (fneed : Int32) (clos : Int32) (boatO : Nat → Int32) (seaO : Nat → Int32) (faultO : Nat → Int32) (daysO : Nat → Int32) (backB : Nat → Int32) (sailB : Nat → Int32) (plc : Nat → Int32) (car : Nat → Int32) (bnd : Nat → Int32) (bsk : Nat → Int32) (dyL : Nat → Int32) (rsn : Nat → Int32) (pastF : Nat → Int32) (pastN : Int32) (logF : Nat → Int32) (logN : Int32) : va_W := [cO α k 8 [rf α (k + 1), rf α (k + 8), rf α (k + 15), rf α (k + 17), .int day, .int votes, .int (b2i (tb isOpen)), .int baskets, .int lays, .int recs, .int fneed, .int clos]] ++ (cFleet D α (k + 1) boatO seaO faultO daysO backB sailB ++ (cSticks D α (k + 8) plc car bnd bsk dyL rsn ++ (cRing D α (k + 15) 8 pastF pastN ++ (cRing D α (k + 17) 30 logF logN))))
def cBallot (D : va_G) (α : Nat → Nat) (k : Nat) (blB : Nat → Int32) (blC : Nat → Int32) : va_W := [cO α k 0 [rf α (k + 1), rf α (k + 2)],
  cI D α (k + 1) 20 blB,
  cI D α (k + 2) 4 blC]
def cVil (D : va_G) (α : Nat → Nat) (k : Nat) (nums : Nat → Int32) (bNames : Nat → Int32) (pNames : Nat → Int32) (fBoats : Nat → Int32) (nB : Int32) (nP : Int32) (day : Int32) (votes : Int32) (isOpen : Int32) (baskets : Int32) (lays : Int32) (recs : Int32) (fneed : Int32) (clos : Int32) (boatO : Nat → Int32) (seaO : Nat → Int32) (faultO : Nat → Int32) (daysO : Nat → Int32) (backB : Nat → Int32) (sailB : Nat → Int32) (plc : Nat → Int32) (car : Nat → Int32) (bnd : Nat → Int32) (bsk : Nat → Int32) (dyL : Nat → Int32) (rsn : Nat → Int32) (pastF : Nat → Int32) (pastN : Int32) (logF : Nat → Int32) (logN : Int32) (blB : Nat → Int32) (blC : Nat → Int32) : va_W := [cO α k 10 [rf α (k + 1), rf α (k + 6), rf α (k + 25)]] ++ (cSetup D α (k + 1) nums bNames pNames fBoats nB nP ++ (cState D α (k + 6) day votes isOpen baskets lays recs fneed clos boatO seaO faultO daysO backB sailB plc car bnd bsk dyL rsn pastF pastN logF logN ++ (cBallot D α (k + 25) blB blC)))
def cParser (D : va_G) (α : Nat → Nat) (k : Nat) (pk : Int32) (pst : Int32) (pe : Int32) (tp : Nat → Int32) (tl : Int32) (dnums : Nat → Int32) (dbNames : Nat → Int32) (dpNames : Nat → Int32) (dfBoats : Nat → Int32) (dnB : Int32) (dnP : Int32) : va_W := [cO α k 4 [rf α (k + 1), rf α (k + 3), .int pk, .int pst, .int pe]] ++ (cBytes D α (k + 1) 800 tp tl ++ (cSetup D α (k + 3) dnums dbNames dpNames dfBoats dnB dnP))
def cScribe (D : va_G) (α : Nat → Nat) (k : Nat) (tx : Nat → Int32) (txl : Int32) : va_W := [cO α k 6 [rf α (k + 1)]] ++ (cBytes D α (k + 1) 2048 tx txl)
/-! what the tables say of each method -/
theorem qn_RX11_9 : (RX11, 9, yX4_init, RX11) ∈ nestW := List.mem_of_getElem? (i := 0) rfl
theorem qn_RX4_22 : (RX4, 22, yX7_init, RX11) ∈ nestW := List.mem_of_getElem? (i := 1) rfl
theorem qn_RX11_23 : (RX11, 23, yX10_init, RX11) ∈ nestW := List.mem_of_getElem? (i := 2) rfl
theorem qn_RX10_11 : (RX10, 11, yX7_init, RX11) ∈ nestW := List.mem_of_getElem? (i := 3) rfl
theorem qn_RX10_20 : (RX10, 20, yX8_init, RX11) ∈ nestW := List.mem_of_getElem? (i := 4) rfl
theorem qn_RX8_11 : (RX8, 11, yX2_init, RX11) ∈ nestW := List.mem_of_getElem? (i := 5) rfl
theorem qn_RX8_20 : (RX8, 20, yX9_init, RX11) ∈ nestW := List.mem_of_getElem? (i := 6) rfl
theorem qn_RX10_27 : (RX10, 27, yX0_init, RX11) ∈ nestW := List.mem_of_getElem? (i := 7) rfl
theorem qn_RX3_17 : (RX3, 17, yX8_init, RX11) ∈ nestW := List.mem_of_getElem? (i := 8) rfl
theorem qn_RX11_47 : (RX11, 47, yX8_init, RX11) ∈ nestW := List.mem_of_getElem? (i := 9) rfl
theorem qn_RX11_58 : (RX11, 58, yX6_init, RX11) ∈ nestW := List.mem_of_getElem? (i := 10) rfl
theorem qn_RX7_51 : (RX7, 51, yX11_setCell, RX11) ∈ nestW := List.mem_of_getElem? (i := 11) rfl
theorem qn_RX7_47 : (RX7, 47, yX11_cell, RX11) ∈ nestW := List.mem_of_getElem? (i := 12) rfl
theorem qn_RX2_40 : (RX2, 40, yX11_fillRow, RX11) ∈ nestW := List.mem_of_getElem? (i := 13) rfl
theorem qn_RX9_30 : (RX9, 30, yX11_fillRow, RX11) ∈ nestW := List.mem_of_getElem? (i := 14) rfl
theorem qn_RX3_25 : (RX3, 25, yX11_isIn, RX11) ∈ nestW := List.mem_of_getElem? (i := 15) rfl
theorem qn_RX2_44 : (RX2, 44, yX11_copyRow, RX11) ∈ nestW := List.mem_of_getElem? (i := 16) rfl
theorem qn_RX9_34 : (RX9, 34, yX11_copyRow, RX11) ∈ nestW := List.mem_of_getElem? (i := 17) rfl
theorem qn_RX5_28 : (RX5, 28, yX11_copyRow, RX11) ∈ nestW := List.mem_of_getElem? (i := 18) rfl
theorem qn_RX9_38 : (RX9, 38, yX11_cell, RX11) ∈ nestW := List.mem_of_getElem? (i := 19) rfl
theorem qn_RX9_52 : (RX9, 52, yX11_setCell, RX11) ∈ nestW := List.mem_of_getElem? (i := 20) rfl
theorem qn_RX5_39 : (RX5, 39, yX11_setCell, RX11) ∈ nestW := List.mem_of_getElem? (i := 21) rfl
theorem qn_RX2_48 : (RX2, 48, yX11_cell, RX11) ∈ nestW := List.mem_of_getElem? (i := 22) rfl
theorem qn_RX7_43 : (RX7, 43, yX11_copyRow, RX11) ∈ nestW := List.mem_of_getElem? (i := 23) rfl
theorem qn_RX0_44 : (RX0, 44, yX11_fillRow, RX11) ∈ nestW := List.mem_of_getElem? (i := 24) rfl
theorem qn_RX0_48 : (RX0, 48, yX11_isBasket, RX11) ∈ nestW := List.mem_of_getElem? (i := 25) rfl
theorem qn_RX0_40 : (RX0, 40, yX11_cell, RX11) ∈ nestW := List.mem_of_getElem? (i := 26) rfl
theorem qn_RX0_26 : (RX0, 26, yX11_setCell, RX11) ∈ nestW := List.mem_of_getElem? (i := 27) rfl
theorem qn_RX2_52 : (RX2, 52, yX11_setCell, RX11) ∈ nestW := List.mem_of_getElem? (i := 28) rfl
theorem qn_RX5_51 : (RX5, 51, yX11_isIn, RX11) ∈ nestW := List.mem_of_getElem? (i := 29) rfl
theorem qn_RX5_55 : (RX5, 55, yX11_cell, RX11) ∈ nestW := List.mem_of_getElem? (i := 30) rfl
theorem mc_X11_init : MC yX11_init cX11_init 1 0 := ⟨qw27, qw1, qw28, rfl, by decide, by decide, by decide +kernel⟩
theorem mc_X4_init : MC yX4_init cX4_init 1 0 := ⟨qw35, qw2, qw36, rfl, by decide, by decide, by decide +kernel⟩
theorem mc_X1_init : MC yX1_init cX1_init 2 1 := ⟨qw41, qw3, qw42, rfl, by decide, by decide, by decide +kernel⟩
theorem ms_J9_max_7cf53 : MS yJ9_max_7cf53 cJ9_max_7cf53 2 (Option.some Jvm.ClassFile.FieldType.int) 2 := ⟨qw45, qw4, qw46, by decide, by decide, by decide +kernel⟩
theorem mc_X7_init : MC yX7_init cX7_init 1 0 := ⟨qw58, qw5, qw59, rfl, by decide, by decide, by decide +kernel⟩
theorem mc_X10_init : MC yX10_init cX10_init 1 0 := ⟨qw102, qw6, qw103, rfl, by decide, by decide, by decide +kernel⟩
theorem mc_X8_init : MC yX8_init cX8_init 1 0 := ⟨qw110, qw7, qw111, rfl, by decide, by decide, by decide +kernel⟩
theorem mc_X2_init : MC yX2_init cX2_init 1 0 := ⟨qw116, qw8, qw117, rfl, by decide, by decide, by decide +kernel⟩
theorem mc_X9_init : MC yX9_init cX9_init 1 0 := ⟨qw141, qw9, qw142, rfl, by decide, by decide, by decide +kernel⟩
theorem mc_X5_init : MC yX5_init cX5_init 2 1 := ⟨qw166, qw10, qw167, rfl, by decide, by decide, by decide +kernel⟩
theorem mc_X0_init : MC yX0_init cX0_init 1 0 := ⟨qw242, qw11, qw243, rfl, by decide, by decide, by decide +kernel⟩
theorem mc_X3_init : MC yX3_init cX3_init 2 0 := ⟨qw267, qw12, qw268, rfl, by decide, by decide, by decide +kernel⟩
theorem mc_X6_init : MC yX6_init cX6_init 1 0 := ⟨qw288, qw13, qw289, rfl, by decide, by decide, by decide +kernel⟩
theorem mi_X10_beginTheFirstOne : MI RX10 yX10_beginTheFirstOne cX10_beginTheFirstOne 1 (Option.none : Option Jvm.ClassFile.FieldType) 0 := ⟨qw299, qw300, qw6, qw301, rfl, by decide, by decide, by decide +kernel⟩
theorem mi_X7_makeFirstVillage : MI RX7 yX7_makeFirstVillage cX7_makeFirstVillage 2 (Option.none : Option Jvm.ClassFile.FieldType) 0 := ⟨qw303, qw304, qw5, qw305, rfl, by decide, by decide, by decide +kernel⟩
theorem mi_X7_clear : MI RX7 yX7_clear cX7_clear 1 (Option.none : Option Jvm.ClassFile.FieldType) 0 := ⟨qw307, qw308, qw5, qw309, rfl, by decide, by decide, by decide +kernel⟩
theorem mi_X7_setNumber : MI RX7 yX7_setNumber cX7_setNumber 3 (Option.none : Option Jvm.ClassFile.FieldType) 2 := ⟨qw311, qw312, qw5, qw313, rfl, by decide, by decide, by decide +kernel⟩
theorem ms_X11_setCell : MS yX11_setCell cX11_setCell 3 (Option.none : Option Jvm.ClassFile.FieldType) 3 := ⟨qw315, qw1, qw316, by decide, by decide, by decide +kernel⟩
theorem mi_X7_addPerson : MI RX7 yX7_addPerson cX7_addPerson 3 (Option.none : Option Jvm.ClassFile.FieldType) 2 := ⟨qw319, qw320, qw5, qw321, rfl, by decide, by decide, by decide +kernel⟩
theorem mi_X8_begin : MI RX8 yX8_begin cX8_begin 2 (Option.none : Option Jvm.ClassFile.FieldType) 1 := ⟨qw324, qw325, qw7, qw326, rfl, by decide, by decide, by decide +kernel⟩
theorem mi_X2_begin : MI RX2 yX2_begin cX2_begin 3 (Option.none : Option Jvm.ClassFile.FieldType) 1 := ⟨qw328, qw329, qw8, qw330, rfl, by decide, by decide, by decide +kernel⟩
theorem mi_X7_people : MI RX7 yX7_people cX7_people 1 (Option.some Jvm.ClassFile.FieldType.int) 0 := ⟨qw332, qw333, qw5, qw334, rfl, by decide, by decide, by decide +kernel⟩
theorem mi_X7_firstBoatOf : MI RX7 yX7_firstBoatOf cX7_firstBoatOf 2 (Option.some Jvm.ClassFile.FieldType.int) 1 := ⟨qw336, qw337, qw5, qw338, rfl, by decide, by decide, by decide +kernel⟩
theorem ms_X11_cell : MS yX11_cell cX11_cell 3 (Option.some Jvm.ClassFile.FieldType.int) 3 := ⟨qw340, qw1, qw341, by decide, by decide, by decide +kernel⟩
theorem ms_X11_fillRow : MS yX11_fillRow cX11_fillRow 3 (Option.none : Option Jvm.ClassFile.FieldType) 2 := ⟨qw343, qw1, qw344, by decide, by decide, by decide +kernel⟩
theorem mi_X9_begin : MI RX9 yX9_begin cX9_begin 1 (Option.none : Option Jvm.ClassFile.FieldType) 0 := ⟨qw346, qw347, qw9, qw348, rfl, by decide, by decide, by decide +kernel⟩
theorem mi_X5_clear : MI RX5 yX5_clear cX5_clear 1 (Option.none : Option Jvm.ClassFile.FieldType) 0 := ⟨qw351, qw352, qw10, qw353, rfl, by decide, by decide, by decide +kernel⟩
theorem mi_X8_beginVote : MI RX8 yX8_beginVote cX8_beginVote 2 (Option.none : Option Jvm.ClassFile.FieldType) 1 := ⟨qw355, qw356, qw7, qw357, rfl, by decide, by decide, by decide +kernel⟩
theorem mi_X11_open : MI RX11 yX11_open cX11_open 2 (Option.some Jvm.ClassFile.FieldType.int) 1 := ⟨qw390, qw391, qw1, qw392, rfl, by decide, by decide, by decide +kernel⟩
theorem mi_X10_isVoteOpen : MI RX10 yX10_isVoteOpen cX10_isVoteOpen 1 (Option.some Jvm.ClassFile.FieldType.boolean) 0 := ⟨qw394, qw395, qw6, qw396, rfl, by decide, by decide, by decide +kernel⟩
theorem mi_X3_remember : MI RX3 yX3_remember cX3_remember 2 (Option.none : Option Jvm.ClassFile.FieldType) 1 := ⟨qw398, qw399, qw12, qw400, rfl, by decide, by decide, by decide +kernel⟩
theorem ms_X11_isIn : MS yX11_isIn cX11_isIn 2 (Option.some Jvm.ClassFile.FieldType.boolean) 2 := ⟨qw402, qw1, qw403, by decide, by decide, by decide +kernel⟩
theorem mi_X8_copyFrom : MI RX8 yX8_copyFrom cX8_copyFrom 2 (Option.none : Option Jvm.ClassFile.FieldType) 1 := ⟨qw405, qw406, qw7, qw407, rfl, by decide, by decide, by decide +kernel⟩
theorem mi_X2_copyFrom : MI RX2 yX2_copyFrom cX2_copyFrom 2 (Option.none : Option Jvm.ClassFile.FieldType) 1 := ⟨qw409, qw410, qw8, qw411, rfl, by decide, by decide, by decide +kernel⟩
theorem ms_X11_copyRow : MS yX11_copyRow cX11_copyRow 2 (Option.none : Option Jvm.ClassFile.FieldType) 2 := ⟨qw413, qw1, qw414, by decide, by decide, by decide +kernel⟩
theorem ms_J9_min_7cf53 : MS yJ9_min_7cf53 cJ9_min_7cf53 2 (Option.some Jvm.ClassFile.FieldType.int) 2 := ⟨qw416, qw4, qw417, by decide, by decide, by decide +kernel⟩
theorem mi_X9_copyFrom : MI RX9 yX9_copyFrom cX9_copyFrom 2 (Option.none : Option Jvm.ClassFile.FieldType) 1 := ⟨qw422, qw423, qw9, qw424, rfl, by decide, by decide, by decide +kernel⟩
theorem mi_X5_copyFrom : MI RX5 yX5_copyFrom cX5_copyFrom 2 (Option.none : Option Jvm.ClassFile.FieldType) 1 := ⟨qw427, qw428, qw10, qw429, rfl, by decide, by decide, by decide +kernel⟩
theorem mi_X10_beginVote : MI RX10 yX10_beginVote cX10_beginVote 2 (Option.some Jvm.ClassFile.FieldType.int) 1 := ⟨qw433, qw434, qw6, qw435, rfl, by decide, by decide, by decide +kernel⟩
theorem mi_X9_takeOut : MI RX9 yX9_takeOut cX9_takeOut 2 (Option.none : Option Jvm.ClassFile.FieldType) 0 := ⟨qw437, qw438, qw9, qw439, rfl, by decide, by decide, by decide +kernel⟩
theorem mi_X9_carrierOf : MI RX9 yX9_carrierOf cX9_carrierOf 2 (Option.some Jvm.ClassFile.FieldType.int) 1 := ⟨qw441, qw442, qw9, qw443, rfl, by decide, by decide, by decide +kernel⟩
theorem mi_X10_latestVote : MI RX10 yX10_latestVote cX10_latestVote 1 (Option.some Jvm.ClassFile.FieldType.int) 0 := ⟨qw449, qs0, qw6, qw450, rfl, by decide, by decide, by decide +kernel⟩
theorem mi_X5_add : MI RX5 yX5_add cX5_add 6 (Option.none : Option Jvm.ClassFile.FieldType) 4 := ⟨qw452, qw453, qw10, qw454, rfl, by decide, by decide, by decide +kernel⟩
theorem mi_X5_placeOf : MI RX5 yX5_placeOf cX5_placeOf 2 (Option.some Jvm.ClassFile.FieldType.int) 1 := ⟨qw457, qs1, qw10, qw458, rfl, by decide, by decide, by decide +kernel⟩
theorem ms_J9_floorMod_7cf53 : MS yJ9_floorMod_7cf53 cJ9_floorMod_7cf53 3 (Option.some Jvm.ClassFile.FieldType.int) 2 := ⟨qw460, qw4, qw461, by decide, by decide, by decide +kernel⟩
theorem mi_X11_person : MI RX11 yX11_person cX11_person 3 (Option.some Jvm.ClassFile.FieldType.int) 2 := ⟨qw464, qw465, qw1, qw466, rfl, by decide, by decide, by decide +kernel⟩
theorem mi_X11_isPerson : MI RX11 yX11_isPerson cX11_isPerson 2 (Option.some Jvm.ClassFile.FieldType.boolean) 1 := ⟨qw469, qs2, qw1, qw470, rfl, by decide, by decide, by decide +kernel⟩
theorem mi_X2_boatOf : MI RX2 yX2_boatOf cX2_boatOf 2 (Option.some Jvm.ClassFile.FieldType.int) 1 := ⟨qw474, qw475, qw8, qw476, rfl, by decide, by decide, by decide +kernel⟩
theorem mi_X2_isAtSea : MI RX2 yX2_isAtSea cX2_isAtSea 2 (Option.some Jvm.ClassFile.FieldType.boolean) 1 := ⟨qw479, qw480, qw8, qw481, rfl, by decide, by decide, by decide +kernel⟩
theorem mi_X10_homeDayOf : MI RX10 yX10_homeDayOf cX10_homeDayOf 2 (Option.some Jvm.ClassFile.FieldType.int) 1 := ⟨qw483, qw484, qw6, qw485, rfl, by decide, by decide, by decide +kernel⟩
theorem mi_X2_backOf : MI RX2 yX2_backOf cX2_backOf 2 (Option.some Jvm.ClassFile.FieldType.int) 1 := ⟨qw489, qw490, qw8, qw491, rfl, by decide, by decide, by decide +kernel⟩
theorem mi_X2_faultsOf : MI RX2 yX2_faultsOf cX2_faultsOf 2 (Option.some Jvm.ClassFile.FieldType.int) 1 := ⟨qw493, qw494, qw8, qw495, rfl, by decide, by decide, by decide +kernel⟩
theorem mi_X9_carriedBy : MI RX9 yX9_carriedBy cX9_carriedBy 4 (Option.some Jvm.ClassFile.FieldType.int) 1 := ⟨qw497, qw498, qw9, qw499, rfl, by decide, by decide, by decide +kernel⟩
theorem mi_X9_placeOf : MI RX9 yX9_placeOf cX9_placeOf 2 (Option.some Jvm.ClassFile.FieldType.int) 1 := ⟨qw501, qw502, qw9, qw503, rfl, by decide, by decide, by decide +kernel⟩
theorem ms_J6_bitCount_0f7a4 : MS yJ6_bitCount_0f7a4 cJ6_bitCount_0f7a4 1 (Option.some Jvm.ClassFile.FieldType.int) 1 := ⟨qw505, qw23, qw506, by decide, by decide, by decide +kernel⟩
theorem mi_X9_laidForOthers : MI RX9 yX9_laidForOthers cX9_laidForOthers 5 (Option.some Jvm.ClassFile.FieldType.int) 1 := ⟨qw511, qw512, qw9, qw513, rfl, by decide, by decide, by decide +kernel⟩
theorem mi_X2_daysAtSeaOf : MI RX2 yX2_daysAtSeaOf cX2_daysAtSeaOf 2 (Option.some Jvm.ClassFile.FieldType.int) 1 := ⟨qw515, qw516, qw8, qw517, rfl, by decide, by decide, by decide +kernel⟩
theorem ms_L_loads : MS yL_loads cL_loads 2 (Option.some Jvm.ClassFile.FieldType.boolean) 2 := ⟨qw519, qw0, qw520, by decide, by decide, by decide +kernel⟩
theorem ms_L_write : MS yL_write cL_write 7 (Option.none : Option Jvm.ClassFile.FieldType) 2 := ⟨qw522, qw0, qw523, by decide, by decide, by decide +kernel⟩
theorem mi_X11_tapeLength : MI RX11 yX11_tapeLength cX11_tapeLength 1 (Option.some Jvm.ClassFile.FieldType.int) 0 := ⟨qw525, qw526, qw1, qw527, rfl, by decide, by decide, by decide +kernel⟩
theorem mi_X1_length : MI RX1 yX1_length cX1_length 1 (Option.some Jvm.ClassFile.FieldType.int) 0 := ⟨qw529, qw530, qw3, qw531, rfl, by decide, by decide, by decide +kernel⟩
theorem mi_X11_truncate : MI RX11 yX11_truncate cX11_truncate 2 (Option.some Jvm.ClassFile.FieldType.int) 1 := ⟨qw533, qw534, qw1, qw535, rfl, by decide, by decide, by decide +kernel⟩
theorem mi_X1_cutTo : MI RX1 yX1_cutTo cX1_cutTo 2 (Option.none : Option Jvm.ClassFile.FieldType) 1 := ⟨qw537, qw538, qw3, qw539, rfl, by decide, by decide, by decide +kernel⟩
theorem mi_J0_length_8abf5 : MI RJ0 yJ0_length_8abf5 cJ0_length_8abf5 1 (Option.some Jvm.ClassFile.FieldType.int) 0 := ⟨qw541, qw542, qw16, qw543, rfl, by decide, by decide, by decide +kernel⟩
theorem mi_J0_coder_7d493 : MI RJ0 yJ0_coder_7d493 cJ0_coder_7d493 1 (Option.some Jvm.ClassFile.FieldType.byte) 0 := ⟨qw545, qw546, qw16, qw547, rfl, by decide, by decide, by decide +kernel⟩
theorem mi_J0_charAt_5068e : MI RJ0 yJ0_charAt_5068e cJ0_charAt_5068e 2 (Option.some Jvm.ClassFile.FieldType.char) 1 := ⟨qw551, qw552, qw16, qw553, rfl, by decide, by decide, by decide +kernel⟩
theorem mi_J0_isLatin1_aae02 : MI RJ0 yJ0_isLatin1_aae02 cJ0_isLatin1_aae02 1 (Option.some Jvm.ClassFile.FieldType.boolean) 0 := ⟨qw555, qw556, qw16, qw557, rfl, by decide, by decide, by decide +kernel⟩
theorem ms_J1_charAt_3b067 : MS yJ1_charAt_3b067 cJ1_charAt_3b067 2 (Option.some Jvm.ClassFile.FieldType.char) 2 := ⟨qw559, qw22, qw560, by decide, by decide, by decide +kernel⟩
theorem ms_J0_checkIndex_df160 : MS yJ0_checkIndex_df160 cJ0_checkIndex_df160 2 (Option.none : Option Jvm.ClassFile.FieldType) 2 := ⟨qw562, qw16, qw563, by decide, by decide, by decide +kernel⟩
theorem ms_J3_checkIndex_8e157 : MS yJ3_checkIndex_8e157 cJ3_checkIndex_8e157 3 (Option.some Jvm.ClassFile.FieldType.int) 3 := ⟨qw567, qw21, qw568, by decide, by decide, by decide +kernel⟩
theorem ms_J2_charAt_3b067 : MS yJ2_charAt_3b067 cJ2_charAt_3b067 2 (Option.some Jvm.ClassFile.FieldType.char) 2 := ⟨qw570, qw17, qw571, by decide, by decide, by decide +kernel⟩
theorem ms_J2_checkIndex_2214a : MS yJ2_checkIndex_2214a cJ2_checkIndex_2214a 2 (Option.none : Option Jvm.ClassFile.FieldType) 2 := ⟨qw573, qw17, qw574, by decide, by decide, by decide +kernel⟩
theorem ms_J2_length_9d52b : MS yJ2_length_9d52b cJ2_length_9d52b 1 (Option.some Jvm.ClassFile.FieldType.int) 1 := ⟨qw576, qw17, qw577, by decide, by decide, by decide +kernel⟩
theorem ms_J2_getChar_3b067 : MS yJ2_getChar_3b067 cJ2_getChar_3b067 2 (Option.some Jvm.ClassFile.FieldType.char) 2 := ⟨qw580, qw17, qw581, by decide, by decide, by decide +kernel⟩
theorem mi_X11_append : MI RX11 yX11_append cX11_append 6 (Option.some Jvm.ClassFile.FieldType.int) 5 := ⟨qw589, qw590, qw1, qw591, rfl, by decide, by decide, by decide +kernel⟩
theorem mi_X1_addWhole : MI RX1 yX1_addWhole cX1_addWhole 3 (Option.none : Option Jvm.ClassFile.FieldType) 1 := ⟨qw593, qw594, qw3, qw595, rfl, by decide, by decide, by decide +kernel⟩
theorem mi_X1_add : MI RX1 yX1_add cX1_add 2 (Option.none : Option Jvm.ClassFile.FieldType) 1 := ⟨qw597, qw598, qw3, qw599, rfl, by decide, by decide, by decide +kernel⟩
theorem mi_X11_load : MI RX11 yX11_load cX11_load 2 (Option.some Jvm.ClassFile.FieldType.int) 0 := ⟨qw601, qw602, qw1, qw603, rfl, by decide, by decide, by decide +kernel⟩
theorem mi_X4_readTape : MI RX4 yX4_readTape cX4_readTape 1 (Option.some Jvm.ClassFile.FieldType.int) 0 := ⟨qw605, qw606, qw2, qw607, rfl, by decide, by decide, by decide +kernel⟩
theorem mi_X4_advance : MI RX4 yX4_advance cX4_advance 1 (Option.none : Option Jvm.ClassFile.FieldType) 0 := ⟨qw611, qs3, qw2, qw612, rfl, by decide, by decide, by decide +kernel⟩
theorem mi_X1_at : MI RX1 yX1_at cX1_at 2 (Option.some Jvm.ClassFile.FieldType.int) 1 := ⟨qw615, qw616, qw3, qw617, rfl, by decide, by decide, by decide +kernel⟩
theorem ms_X4_isSpace : MS yX4_isSpace cX4_isSpace 1 (Option.some Jvm.ClassFile.FieldType.boolean) 1 := ⟨qw619, qw2, qw620, by decide, by decide, by decide +kernel⟩
theorem ms_X4_isLetter : MS yX4_isLetter cX4_isLetter 1 (Option.some Jvm.ClassFile.FieldType.boolean) 1 := ⟨qw622, qw2, qw623, by decide, by decide, by decide +kernel⟩
theorem ms_X4_isDigit : MS yX4_isDigit cX4_isDigit 1 (Option.some Jvm.ClassFile.FieldType.boolean) 1 := ⟨qw625, qw2, qw626, by decide, by decide, by decide +kernel⟩
theorem mi_X4_readNumbers : MI RX4 yX4_readNumbers cX4_readNumbers 1 (Option.some Jvm.ClassFile.FieldType.boolean) 0 := ⟨qw629, qs4, qw2, qw630, rfl, by decide, by decide, by decide +kernel⟩
theorem mi_X4_skipKeyword : MI RX4 yX4_skipKeyword cX4_skipKeyword 2 (Option.some Jvm.ClassFile.FieldType.boolean) 1 := ⟨qw634, qs5, qw2, qw635, rfl, by decide, by decide, by decide +kernel⟩
theorem mi_X4_isKeyword : MI RX4 yX4_isKeyword cX4_isKeyword 2 (Option.some Jvm.ClassFile.FieldType.boolean) 1 := ⟨qw638, qs6, qw2, qw639, rfl, by decide, by decide, by decide +kernel⟩
theorem mi_X4_reads : MI RX4 yX4_reads cX4_reads 3 (Option.some Jvm.ClassFile.FieldType.boolean) 1 := ⟨qw642, qs7, qw2, qw643, rfl, by decide, by decide, by decide +kernel⟩
theorem mi_X4_readNumber : MI RX4 yX4_readNumber cX4_readNumber 5 (Option.some Jvm.ClassFile.FieldType.boolean) 3 := ⟨qw648, qs8, qw2, qw649, rfl, by decide, by decide, by decide +kernel⟩
theorem mi_X4_digits : MI RX4 yX4_digits cX4_digits 3 (Option.some Jvm.ClassFile.FieldType.int) 0 := ⟨qw652, qs9, qw2, qw653, rfl, by decide, by decide, by decide +kernel⟩
theorem mi_X4_readShares : MI RX4 yX4_readShares cX4_readShares 2 (Option.some Jvm.ClassFile.FieldType.boolean) 0 := ⟨qw658, qs10, qw2, qw659, rfl, by decide, by decide, by decide +kernel⟩
theorem mi_X4_skipSemicolon : MI RX4 yX4_skipSemicolon cX4_skipSemicolon 1 (Option.some Jvm.ClassFile.FieldType.boolean) 0 := ⟨qw667, qs11, qw2, qw668, rfl, by decide, by decide, by decide +kernel⟩
theorem mi_X4_readBoats : MI RX4 yX4_readBoats cX4_readBoats 2 (Option.some Jvm.ClassFile.FieldType.boolean) 0 := ⟨qw671, qs12, qw2, qw672, rfl, by decide, by decide, by decide +kernel⟩
theorem mi_X4_isName : MI RX4 yX4_isName cX4_isName 1 (Option.some Jvm.ClassFile.FieldType.boolean) 0 := ⟨qw676, qs13, qw2, qw677, rfl, by decide, by decide, by decide +kernel⟩
theorem mi_X4_isAnyKeyword : MI RX4 yX4_isAnyKeyword cX4_isAnyKeyword 1 (Option.some Jvm.ClassFile.FieldType.boolean) 0 := ⟨qw680, qs14, qw2, qw681, rfl, by decide, by decide, by decide +kernel⟩
theorem mi_X4_letters : MI RX4 yX4_letters cX4_letters 4 (Option.some Jvm.ClassFile.FieldType.int) 0 := ⟨qw686, qs15, qw2, qw687, rfl, by decide, by decide, by decide +kernel⟩
theorem mi_X7_boatNamed : MI RX7 yX7_boatNamed cX7_boatNamed 2 (Option.some Jvm.ClassFile.FieldType.int) 1 := ⟨qw689, qw690, qw5, qw691, rfl, by decide, by decide, by decide +kernel⟩
theorem ms_X7_find : MS yX7_find cX7_find 4 (Option.some Jvm.ClassFile.FieldType.int) 3 := ⟨qw693, qw5, qw694, by decide, by decide, by decide +kernel⟩
theorem mi_X7_addBoat : MI RX7 yX7_addBoat cX7_addBoat 2 (Option.none : Option Jvm.ClassFile.FieldType) 1 := ⟨qw696, qw697, qw5, qw698, rfl, by decide, by decide, by decide +kernel⟩
theorem mi_X4_readPeople : MI RX4 yX4_readPeople cX4_readPeople 2 (Option.some Jvm.ClassFile.FieldType.boolean) 0 := ⟨qw701, qs16, qw2, qw702, rfl, by decide, by decide, by decide +kernel⟩
theorem mi_X4_readPerson : MI RX4 yX4_readPerson cX4_readPerson 3 (Option.some Jvm.ClassFile.FieldType.boolean) 0 := ⟨qw705, qs17, qw2, qw706, rfl, by decide, by decide, by decide +kernel⟩
theorem mi_X7_personNamed : MI RX7 yX7_personNamed cX7_personNamed 2 (Option.some Jvm.ClassFile.FieldType.int) 1 := ⟨qw708, qw709, qw5, qw710, rfl, by decide, by decide, by decide +kernel⟩
theorem mi_X10_beginAnew : MI RX10 yX10_beginAnew cX10_beginAnew 2 (Option.none : Option Jvm.ClassFile.FieldType) 1 := ⟨qw713, qw714, qw6, qw715, rfl, by decide, by decide, by decide +kernel⟩
theorem mi_X7_copyFrom : MI RX7 yX7_copyFrom cX7_copyFrom 2 (Option.none : Option Jvm.ClassFile.FieldType) 1 := ⟨qw717, qw718, qw5, qw719, rfl, by decide, by decide, by decide +kernel⟩
theorem mi_X3_forget : MI RX3 yX3_forget cX3_forget 1 (Option.none : Option Jvm.ClassFile.FieldType) 0 := ⟨qw722, qw723, qw12, qw724, rfl, by decide, by decide, by decide +kernel⟩
theorem mi_X11_value : MI RX11 yX11_value cX11_value 2 (Option.some Jvm.ClassFile.FieldType.int) 1 := ⟨qw726, qw727, qw1, qw728, rfl, by decide, by decide, by decide +kernel⟩
theorem mi_X10_seasonOn : MI RX10 yX10_seasonOn cX10_seasonOn 3 (Option.some Jvm.ClassFile.FieldType.int) 1 := ⟨qw730, qw731, qw6, qw732, rfl, by decide, by decide, by decide +kernel⟩
theorem mi_X7_numberOf : MI RX7 yX7_numberOf cX7_numberOf 2 (Option.some Jvm.ClassFile.FieldType.int) 1 := ⟨qw734, qw735, qw5, qw736, rfl, by decide, by decide, by decide +kernel⟩
theorem mi_X7_boats : MI RX7 yX7_boats cX7_boats 1 (Option.some Jvm.ClassFile.FieldType.int) 0 := ⟨qw739, qw740, qw5, qw741, rfl, by decide, by decide, by decide +kernel⟩
theorem mi_X2_boatsOut : MI RX2 yX2_boatsOut cX2_boatsOut 3 (Option.some Jvm.ClassFile.FieldType.int) 0 := ⟨qw743, qw744, qw8, qw745, rfl, by decide, by decide, by decide +kernel⟩
theorem mi_X2_isOut : MI RX2 yX2_isOut cX2_isOut 2 (Option.some Jvm.ClassFile.FieldType.boolean) 1 := ⟨qw747, qw748, qw8, qw749, rfl, by decide, by decide, by decide +kernel⟩
theorem mi_X2_peopleAtSea : MI RX2 yX2_peopleAtSea cX2_peopleAtSea 3 (Option.some Jvm.ClassFile.FieldType.int) 0 := ⟨qw751, qw752, qw8, qw753, rfl, by decide, by decide, by decide +kernel⟩
theorem mi_X10_needOfVote : MI RX10 yX10_needOfVote cX10_needOfVote 1 (Option.some Jvm.ClassFile.FieldType.int) 0 := ⟨qw756, qw757, qw6, qw758, rfl, by decide, by decide, by decide +kernel⟩
theorem mi_X10_needOf : MI RX10 yX10_needOf cX10_needOf 5 (Option.some Jvm.ClassFile.FieldType.int) 2 := ⟨qw761, qw762, qw6, qw763, rfl, by decide, by decide, by decide +kernel⟩
theorem mi_X9_turnout : MI RX9 yX9_turnout cX9_turnout 1 (Option.some Jvm.ClassFile.FieldType.int) 0 := ⟨qw768, qw769, qw9, qw770, rfl, by decide, by decide, by decide +kernel⟩
theorem mi_X9_countAt : MI RX9 yX9_countAt cX9_countAt 4 (Option.some Jvm.ClassFile.FieldType.int) 1 := ⟨qw773, qs18, qw9, qw774, rfl, by decide, by decide, by decide +kernel⟩
theorem mi_X10_stateOfVote : MI RX10 yX10_stateOfVote cX10_stateOfVote 1 (Option.some Jvm.ClassFile.FieldType.int) 0 := ⟨qw776, qw777, qw6, qw778, rfl, by decide, by decide, by decide +kernel⟩
theorem mi_X10_resultNow : MI RX10 yX10_resultNow cX10_resultNow 1 (Option.some Jvm.ClassFile.FieldType.int) 0 := ⟨qw780, qw781, qw6, qw782, rfl, by decide, by decide, by decide +kernel⟩
theorem mi_X10_resultFor : MI RX10 yX10_resultFor cX10_resultFor 2 (Option.some Jvm.ClassFile.FieldType.int) 1 := ⟨qw786, qs19, qw6, qw787, rfl, by decide, by decide, by decide +kernel⟩
theorem mi_X0_takeFrom : MI RX0 yX0_takeFrom cX0_takeFrom 3 (Option.none : Option Jvm.ClassFile.FieldType) 1 := ⟨qw789, qw790, qw11, qw791, rfl, by decide, by decide, by decide +kernel⟩
theorem mi_X9_basketOf : MI RX9 yX9_basketOf cX9_basketOf 2 (Option.some Jvm.ClassFile.FieldType.int) 1 := ⟨qw794, qw795, qw9, qw796, rfl, by decide, by decide, by decide +kernel⟩
theorem mi_X0_result : MI RX0 yX0_result cX0_result 4 (Option.some Jvm.ClassFile.FieldType.int) 1 := ⟨qw798, qw799, qw11, qw800, rfl, by decide, by decide, by decide +kernel⟩
theorem mi_X0_countAll : MI RX0 yX0_countAll cX0_countAll 4 (Option.some Jvm.ClassFile.FieldType.int) 0 := ⟨qw803, qs20, qw11, qw804, rfl, by decide, by decide, by decide +kernel⟩
theorem ms_X11_isBasket : MS yX11_isBasket cX11_isBasket 1 (Option.some Jvm.ClassFile.FieldType.boolean) 1 := ⟨qw807, qw1, qw808, by decide, by decide, by decide +kernel⟩
theorem mi_X9_struckOnes : MI RX9 yX9_struckOnes cX9_struckOnes 1 (Option.some Jvm.ClassFile.FieldType.int) 0 := ⟨qw813, qw814, qw9, qw815, rfl, by decide, by decide, by decide +kernel⟩
theorem mi_X5_size : MI RX5 yX5_size cX5_size 1 (Option.some Jvm.ClassFile.FieldType.int) 0 := ⟨qw817, qw818, qw10, qw819, rfl, by decide, by decide, by decide +kernel⟩
theorem mi_X9_wrongMask : MI RX9 yX9_wrongMask cX9_wrongMask 3 (Option.some Jvm.ClassFile.FieldType.int) 0 := ⟨qw822, qw823, qw9, qw824, rfl, by decide, by decide, by decide +kernel⟩
theorem mi_X9_isWrong : MI RX9 yX9_isWrong cX9_isWrong 2 (Option.some Jvm.ClassFile.FieldType.boolean) 1 := ⟨qw826, qw827, qw9, qw828, rfl, by decide, by decide, by decide +kernel⟩
theorem mi_X9_reasonOf : MI RX9 yX9_reasonOf cX9_reasonOf 2 (Option.some Jvm.ClassFile.FieldType.int) 1 := ⟨qw830, qw831, qw9, qw832, rfl, by decide, by decide, by decide +kernel⟩
theorem mi_X11_errorPosition : MI RX11 yX11_errorPosition cX11_errorPosition 1 (Option.some Jvm.ClassFile.FieldType.int) 0 := ⟨qw834, qw835, qw1, qw836, rfl, by decide, by decide, by decide +kernel⟩
theorem ms_L_setup : MS yL_setup cL_setup 4 (Option.some (Jvm.ClassFile.FieldType.object "java/lang/String")) 1 := ⟨qw838, qw0, qw839, by decide, by decide, by decide +kernel⟩
theorem mc_J4_init_a7421 : MC yJ4_init_a7421 cJ4_init_a7421 2 1 := ⟨qw844, qw15, qw845, rfl, by decide, by decide, by decide +kernel⟩
theorem mc_J5_init_a7421 : MC yJ5_init_a7421 cJ5_init_a7421 5 1 := ⟨qw847, qw14, qw848, rfl, by decide, by decide, by decide +kernel⟩
theorem ms_J2_newBytesFor_77867 : MS yJ2_newBytesFor_77867 cJ2_newBytesFor_77867 1 (Option.some (Jvm.ClassFile.FieldType.array Jvm.ClassFile.FieldType.byte)) 1 := ⟨qw855, qw17, qw856, by decide, by decide, by decide +kernel⟩
theorem ms_J2_newBytesLength_0f7a4 : MS yJ2_newBytesLength_0f7a4 cJ2_newBytesLength_0f7a4 1 (Option.some Jvm.ClassFile.FieldType.int) 1 := ⟨qw858, qw17, qw859, by decide, by decide, by decide +kernel⟩
theorem mi_J4_append_15ec4 : MI RJ4 yJ4_append_15ec4 cJ4_append_15ec4 2 (Option.some (Jvm.ClassFile.FieldType.object "java/lang/StringBuilder")) 1 := ⟨qw868, qw869, qw15, qw870, rfl, by decide, by decide, by decide +kernel⟩
theorem ms_J8_newLength_cabcc : MS yJ8_newLength_cabcc cJ8_newLength_cabcc 4 (Option.some Jvm.ClassFile.FieldType.int) 3 := ⟨qw887, qw18, qw888, by decide, by decide, by decide +kernel⟩
theorem ms_J8_hugeLength_7cf53 : MS yJ8_hugeLength_7cf53 cJ8_hugeLength_7cf53 3 (Option.some Jvm.ClassFile.FieldType.int) 2 := ⟨qw892, qw18, qw893, by decide, by decide, by decide +kernel⟩
theorem ms_J7_copyOf_9075b : MS yJ7_copyOf_9075b cJ7_copyOf_9075b 3 (Option.some (Jvm.ClassFile.FieldType.array Jvm.ClassFile.FieldType.byte)) 2 := ⟨qw895, qw19, qw896, by decide, by decide, by decide +kernel⟩
theorem ms_J2_putCharsAt_cd4e5 : MS yJ2_putCharsAt_cd4e5 cJ2_putCharsAt_cd4e5 7 (Option.some Jvm.ClassFile.FieldType.int) 6 := ⟨qw913, qw17, qw914, by decide, by decide, by decide +kernel⟩
theorem ms_J2_checkBoundsBeginEnd_d044e : MS yJ2_checkBoundsBeginEnd_d044e cJ2_checkBoundsBeginEnd_d044e 3 (Option.none : Option Jvm.ClassFile.FieldType) 3 := ⟨qw916, qw17, qw917, by decide, by decide, by decide +kernel⟩
theorem ms_J0_checkBoundsBeginEnd_23922 : MS yJ0_checkBoundsBeginEnd_23922 cJ0_checkBoundsBeginEnd_23922 3 (Option.none : Option Jvm.ClassFile.FieldType) 3 := ⟨qw919, qw16, qw920, by decide, by decide, by decide +kernel⟩
theorem ms_J3_checkFromToIndex_8c36e : MS yJ3_checkFromToIndex_8c36e cJ3_checkFromToIndex_8c36e 4 (Option.some Jvm.ClassFile.FieldType.int) 4 := ⟨qw922, qw21, qw923, by decide, by decide, by decide +kernel⟩
theorem ms_J2_putChar_b72d1 : MS yJ2_putChar_b72d1 cJ2_putChar_b72d1 3 (Option.none : Option Jvm.ClassFile.FieldType) 3 := ⟨qw925, qw17, qw926, by decide, by decide, by decide +kernel⟩
theorem ms_J1_inflate_0e8fd : MS yJ1_inflate_0e8fd cJ1_inflate_0e8fd 5 (Option.none : Option Jvm.ClassFile.FieldType) 5 := ⟨qw940, qw22, qw941, by decide, by decide, by decide +kernel⟩
theorem ms_J2_inflate_0e8fd : MS yJ2_inflate_0e8fd cJ2_inflate_0e8fd 6 (Option.none : Option Jvm.ClassFile.FieldType) 5 := ⟨qw943, qw17, qw944, by decide, by decide, by decide +kernel⟩
theorem ms_J2_checkBoundsOffCount_d044e : MS yJ2_checkBoundsOffCount_d044e cJ2_checkBoundsOffCount_d044e 3 (Option.none : Option Jvm.ClassFile.FieldType) 3 := ⟨qw946, qw17, qw947, by decide, by decide, by decide +kernel⟩
theorem ms_J0_checkBoundsOffCount_cabcc : MS yJ0_checkBoundsOffCount_cabcc cJ0_checkBoundsOffCount_cabcc 3 (Option.some Jvm.ClassFile.FieldType.int) 3 := ⟨qw949, qw16, qw950, by decide, by decide, by decide +kernel⟩
theorem ms_J3_checkFromIndexSize_8c36e : MS yJ3_checkFromIndexSize_8c36e cJ3_checkFromIndexSize_8c36e 4 (Option.some Jvm.ClassFile.FieldType.int) 4 := ⟨qw952, qw21, qw953, by decide, by decide, by decide +kernel⟩
theorem mi_J0_getBytes_840e7 : MI RJ0 yJ0_getBytes_840e7 cJ0_getBytes_840e7 4 (Option.none : Option Jvm.ClassFile.FieldType) 3 := ⟨qw955, qw956, qw16, qw957, rfl, by decide, by decide, by decide +kernel⟩
theorem ms_L_draw : MS yL_draw cL_draw 1 (Option.some Jvm.ClassFile.FieldType.int) 1 := ⟨qw973, qw0, qw974, by decide, by decide, by decide +kernel⟩
theorem mi_J4_append_bf812 : MI RJ4 yJ4_append_bf812 cJ4_append_bf812 2 (Option.some (Jvm.ClassFile.FieldType.object "java/lang/StringBuilder")) 1 := ⟨qw977, qw978, qw15, qw979, rfl, by decide, by decide, by decide +kernel⟩
theorem ms_J6_stringSize_0f7a4 : MS yJ6_stringSize_0f7a4 cJ6_stringSize_0f7a4 4 (Option.some Jvm.ClassFile.FieldType.int) 1 := ⟨qw984, qw23, qw985, by decide, by decide, by decide +kernel⟩
theorem ms_J6_getChars_ba4f3 : MS yJ6_getChars_ba4f3 cJ6_getChars_ba4f3 7 (Option.some Jvm.ClassFile.FieldType.int) 3 := ⟨qw987, qw23, qw988, by decide, by decide, by decide +kernel⟩
theorem ms_J2_getChars_46870 : MS yJ2_getChars_46870 cJ2_getChars_46870 5 (Option.some Jvm.ClassFile.FieldType.int) 4 := ⟨qw994, qw17, qw995, by decide, by decide, by decide +kernel⟩
theorem ms_J2_getChars_ba4f3 : MS yJ2_getChars_ba4f3 cJ2_getChars_ba4f3 7 (Option.some Jvm.ClassFile.FieldType.int) 3 := ⟨qw997, qw17, qw998, by decide, by decide, by decide +kernel⟩
theorem mi_J4_append_cf468 : MI RJ4 yJ4_append_cf468 cJ4_append_cf468 2 (Option.some (Jvm.ClassFile.FieldType.object "java/lang/StringBuilder")) 1 := ⟨qw1004, qw1005, qw15, qw1006, rfl, by decide, by decide, by decide +kernel⟩
theorem ms_J1_canEncode_fc78d : MS yJ1_canEncode_fc78d cJ1_canEncode_fc78d 1 (Option.some Jvm.ClassFile.FieldType.boolean) 1 := ⟨qw1011, qw22, qw1012, by decide, by decide, by decide +kernel⟩
theorem ms_J2_putCharSB_b72d1 : MS yJ2_putCharSB_b72d1 cJ2_putCharSB_b72d1 3 (Option.none : Option Jvm.ClassFile.FieldType) 3 := ⟨qw1014, qw17, qw1015, by decide, by decide, by decide +kernel⟩
theorem mc_J4_init_da8c8 : MC yJ4_init_da8c8 cJ4_init_da8c8 1 0 := ⟨qw1025, qw15, qw1026, rfl, by decide, by decide, by decide +kernel⟩
theorem mc_J5_init_d00df : MC yJ5_init_d00df cJ5_init_d00df 2 1 := ⟨qw1028, qw14, qw1029, rfl, by decide, by decide, by decide +kernel⟩
theorem mi_J4_toString_0e30d : MI RJ4 yJ4_toString_0e30d cJ4_toString_0e30d 1 (Option.some (Jvm.ClassFile.FieldType.object "java/lang/String")) 0 := ⟨qw1032, qw1033, qw15, qw1034, rfl, by decide, by decide, by decide +kernel⟩
theorem mc_J0_init_81219 : MC yJ0_init_81219 cJ0_init_81219 2 1 := ⟨qw1038, qw16, qw1039, rfl, by decide, by decide, by decide +kernel⟩
theorem mc_J0_init_db425 : MC yJ0_init_db425 cJ0_init_db425 5 2 := ⟨qw1041, qw16, qw1042, rfl, by decide, by decide, by decide +kernel⟩
theorem ms_J7_copyOfRange_39247 : MS yJ7_copyOfRange_39247 cJ7_copyOfRange_39247 3 (Option.some (Jvm.ClassFile.FieldType.array Jvm.ClassFile.FieldType.byte)) 3 := ⟨qw1059, qw19, qw1060, by decide, by decide, by decide +kernel⟩
theorem ms_J7_copyOfRangeByte_39247 : MS yJ7_copyOfRangeByte_39247 cJ7_copyOfRangeByte_39247 5 (Option.some (Jvm.ClassFile.FieldType.array Jvm.ClassFile.FieldType.byte)) 3 := ⟨qw1062, qw19, qw1063, by decide, by decide, by decide +kernel⟩
theorem ms_J7_checkLength_df160 : MS yJ7_checkLength_df160 cJ7_checkLength_df160 2 (Option.none : Option Jvm.ClassFile.FieldType) 2 := ⟨qw1065, qw19, qw1066, by decide, by decide, by decide +kernel⟩
theorem ms_J2_compress_39247 : MS yJ2_compress_39247 cJ2_compress_39247 6 (Option.some (Jvm.ClassFile.FieldType.array Jvm.ClassFile.FieldType.byte)) 3 := ⟨qw1068, qw17, qw1069, by decide, by decide, by decide +kernel⟩
theorem ms_J2_compress_5af95 : MS yJ2_compress_5af95 cJ2_compress_5af95 7 (Option.some Jvm.ClassFile.FieldType.int) 5 := ⟨qw1071, qw17, qw1072, by decide, by decide, by decide +kernel⟩
theorem ms_J2_coderFromArrayLen_85cad : MS yJ2_coderFromArrayLen_85cad cJ2_coderFromArrayLen_85cad 2 (Option.some Jvm.ClassFile.FieldType.byte) 2 := ⟨qw1075, qw17, qw1076, by decide, by decide, by decide +kernel⟩
theorem ms_L_acts : MS yL_acts cL_acts 6 (Option.some Jvm.ClassFile.FieldType.int) 2 := ⟨qw1089, qw0, qw1090, by decide, by decide, by decide +kernel⟩
theorem mi_X11_sail : MI RX11 yX11_sail cX11_sail 3 (Option.some Jvm.ClassFile.FieldType.int) 2 := ⟨qw1092, qw1093, qw1, qw1094, rfl, by decide, by decide, by decide +kernel⟩
theorem mi_X11_isBoat : MI RX11 yX11_isBoat cX11_isBoat 2 (Option.some Jvm.ClassFile.FieldType.boolean) 1 := ⟨qw1097, qs21, qw1, qw1098, rfl, by decide, by decide, by decide +kernel⟩
theorem ms_X11_isDays : MS yX11_isDays cX11_isDays 1 (Option.some Jvm.ClassFile.FieldType.boolean) 1 := ⟨qw1100, qw1, qw1101, by decide, by decide, by decide +kernel⟩
theorem mi_X10_setOut : MI RX10 yX10_setOut cX10_setOut 5 (Option.some Jvm.ClassFile.FieldType.int) 2 := ⟨qw1104, qw1105, qw6, qw1106, rfl, by decide, by decide, by decide +kernel⟩
theorem mi_X2_leave : MI RX2 yX2_leave cX2_leave 4 (Option.some Jvm.ClassFile.FieldType.int) 2 := ⟨qw1108, qw1109, qw8, qw1110, rfl, by decide, by decide, by decide +kernel⟩
theorem mi_X2_sailedOf : MI RX2 yX2_sailedOf cX2_sailedOf 2 (Option.some Jvm.ClassFile.FieldType.int) 1 := ⟨qw1113, qw1114, qw8, qw1115, rfl, by decide, by decide, by decide +kernel⟩
theorem mi_X2_aboard : MI RX2 yX2_aboard cX2_aboard 4 (Option.some Jvm.ClassFile.FieldType.int) 1 := ⟨qw1118, qw1119, qw8, qw1120, rfl, by decide, by decide, by decide +kernel⟩
theorem mi_X11_delay : MI RX11 yX11_delay cX11_delay 3 (Option.some Jvm.ClassFile.FieldType.int) 2 := ⟨qw1122, qw1123, qw1, qw1124, rfl, by decide, by decide, by decide +kernel⟩
theorem mi_X2_moveBack : MI RX2 yX2_moveBack cX2_moveBack 3 (Option.none : Option Jvm.ClassFile.FieldType) 2 := ⟨qw1126, qw1127, qw8, qw1128, rfl, by decide, by decide, by decide +kernel⟩
theorem mi_X11_comeHome : MI RX11 yX11_comeHome cX11_comeHome 2 (Option.some Jvm.ClassFile.FieldType.int) 1 := ⟨qw1132, qw1133, qw1, qw1134, rfl, by decide, by decide, by decide +kernel⟩
theorem mi_X10_bringHome : MI RX10 yX10_bringHome cX10_bringHome 3 (Option.some Jvm.ClassFile.FieldType.int) 1 := ⟨qw1136, qw1137, qw6, qw1138, rfl, by decide, by decide, by decide +kernel⟩
theorem mi_X2_arrive : MI RX2 yX2_arrive cX2_arrive 4 (Option.some Jvm.ClassFile.FieldType.int) 1 := ⟨qw1140, qw1141, qw8, qw1142, rfl, by decide, by decide, by decide +kernel⟩
theorem mi_X11_join : MI RX11 yX11_join cX11_join 4 (Option.some Jvm.ClassFile.FieldType.int) 2 := ⟨qw1144, qw1145, qw1, qw1146, rfl, by decide, by decide, by decide +kernel⟩
theorem mi_X2_assign : MI RX2 yX2_assign cX2_assign 3 (Option.none : Option Jvm.ClassFile.FieldType) 2 := ⟨qw1148, qw1149, qw8, qw1150, rfl, by decide, by decide, by decide +kernel⟩
theorem mi_X11_give : MI RX11 yX11_give cX11_give 4 (Option.some Jvm.ClassFile.FieldType.int) 3 := ⟨qw1152, qw1153, qw1, qw1154, rfl, by decide, by decide, by decide +kernel⟩
theorem mi_X9_handTo : MI RX9 yX9_handTo cX9_handTo 4 (Option.none : Option Jvm.ClassFile.FieldType) 3 := ⟨qw1158, qw1159, qw9, qw1160, rfl, by decide, by decide, by decide +kernel⟩
theorem mi_X11_takeBack : MI RX11 yX11_takeBack cX11_takeBack 4 (Option.some Jvm.ClassFile.FieldType.int) 1 := ⟨qw1162, qw1163, qw1, qw1164, rfl, by decide, by decide, by decide +kernel⟩
theorem mi_X9_handBack : MI RX9 yX9_handBack cX9_handBack 2 (Option.none : Option Jvm.ClassFile.FieldType) 1 := ⟨qw1167, qw1168, qw9, qw1169, rfl, by decide, by decide, by decide +kernel⟩
theorem mi_X11_lay : MI RX11 yX11_lay cX11_lay 5 (Option.some Jvm.ClassFile.FieldType.int) 3 := ⟨qw1171, qw1172, qw1, qw1173, rfl, by decide, by decide, by decide +kernel⟩
theorem mi_X11_refusalToLay : MI RX11 yX11_refusalToLay cX11_refusalToLay 4 (Option.some Jvm.ClassFile.FieldType.int) 3 := ⟨qw1176, qs22, qw1, qw1177, rfl, by decide, by decide, by decide +kernel⟩
theorem mi_X9_isHadBy : MI RX9 yX9_isHadBy cX9_isHadBy 3 (Option.some Jvm.ClassFile.FieldType.boolean) 2 := ⟨qw1179, qw1180, qw9, qw1181, rfl, by decide, by decide, by decide +kernel⟩
theorem mi_X10_putIntoBasket : MI RX10 yX10_putIntoBasket cX10_putIntoBasket 4 (Option.some Jvm.ClassFile.FieldType.int) 3 := ⟨qw1183, qw1184, qw6, qw1185, rfl, by decide, by decide, by decide +kernel⟩
theorem mi_X10_reasonFor : MI RX10 yX10_reasonFor cX10_reasonFor 5 (Option.some Jvm.ClassFile.FieldType.int) 3 := ⟨qw1187, qw1188, qw6, qw1189, rfl, by decide, by decide, by decide +kernel⟩
theorem mi_X9_boundTo : MI RX9 yX9_boundTo cX9_boundTo 2 (Option.some Jvm.ClassFile.FieldType.int) 1 := ⟨qw1192, qw1193, qw9, qw1194, rfl, by decide, by decide, by decide +kernel⟩
theorem mi_X9_putInto : MI RX9 yX9_putInto cX9_putInto 5 (Option.none : Option Jvm.ClassFile.FieldType) 4 := ⟨qw1196, qw1197, qw9, qw1198, rfl, by decide, by decide, by decide +kernel⟩
theorem mi_X9_countIn : MI RX9 yX9_countIn cX9_countIn 2 (Option.some Jvm.ClassFile.FieldType.int) 1 := ⟨qw1200, qw1201, qw9, qw1202, rfl, by decide, by decide, by decide +kernel⟩
theorem mi_X9_maskIn : MI RX9 yX9_maskIn cX9_maskIn 4 (Option.some Jvm.ClassFile.FieldType.int) 1 := ⟨qw1204, qw1205, qw9, qw1206, rfl, by decide, by decide, by decide +kernel⟩
theorem mi_X11_stick : MI RX11 yX11_stick cX11_stick 3 (Option.some Jvm.ClassFile.FieldType.int) 2 := ⟨qw1210, qw1211, qw1, qw1212, rfl, by decide, by decide, by decide +kernel⟩
theorem mi_X9_dayOf : MI RX9 yX9_dayOf cX9_dayOf 2 (Option.some Jvm.ClassFile.FieldType.int) 1 := ⟨qw1216, qw1217, qw9, qw1218, rfl, by decide, by decide, by decide +kernel⟩
theorem mi_X11_contest : MI RX11 yX11_contest cX11_contest 3 (Option.some Jvm.ClassFile.FieldType.int) 2 := ⟨qw1221, qw1222, qw1, qw1223, rfl, by decide, by decide, by decide +kernel⟩
theorem mi_X10_judge : MI RX10 yX10_judge cX10_judge 5 (Option.some Jvm.ClassFile.FieldType.int) 2 := ⟨qw1225, qw1226, qw6, qw1227, rfl, by decide, by decide, by decide +kernel⟩
theorem mi_X2_addFault : MI RX2 yX2_addFault cX2_addFault 2 (Option.none : Option Jvm.ClassFile.FieldType) 1 := ⟨qw1230, qw1231, qw8, qw1232, rfl, by decide, by decide, by decide +kernel⟩
theorem mi_X10_strike : MI RX10 yX10_strike cX10_strike 2 (Option.none : Option Jvm.ClassFile.FieldType) 1 := ⟨qw1238, qs23, qw6, qw1239, rfl, by decide, by decide, by decide +kernel⟩
theorem mi_X9_strike : MI RX9 yX9_strike cX9_strike 2 (Option.none : Option Jvm.ClassFile.FieldType) 1 := ⟨qw1241, qw1242, qw9, qw1243, rfl, by decide, by decide, by decide +kernel⟩
theorem mi_X10_correctResult : MI RX10 yX10_correctResult cX10_correctResult 3 (Option.none : Option Jvm.ClassFile.FieldType) 1 := ⟨qw1246, qs24, qw6, qw1247, rfl, by decide, by decide, by decide +kernel⟩
theorem mi_X5_setPart : MI RX5 yX5_setPart cX5_setPart 4 (Option.none : Option Jvm.ClassFile.FieldType) 3 := ⟨qw1250, qw1251, qw10, qw1252, rfl, by decide, by decide, by decide +kernel⟩
theorem mi_X5_has : MI RX5 yX5_has cX5_has 2 (Option.some Jvm.ClassFile.FieldType.boolean) 1 := ⟨qw1254, qw1255, qw10, qw1256, rfl, by decide, by decide, by decide +kernel⟩
theorem mi_X5_oldest : MI RX5 yX5_oldest cX5_oldest 1 (Option.some Jvm.ClassFile.FieldType.int) 0 := ⟨qw1258, qw1259, qw10, qw1260, rfl, by decide, by decide, by decide +kernel⟩
theorem ms_X10_inLog : MS yX10_inLog cX10_inLog 1 (Option.some Jvm.ClassFile.FieldType.int) 1 := ⟨qw1263, qw6, qw1264, by decide, by decide, by decide +kernel⟩
theorem mi_X11_close : MI RX11 yX11_close cX11_close 1 (Option.some Jvm.ClassFile.FieldType.int) 0 := ⟨qw1266, qw1267, qw1, qw1268, rfl, by decide, by decide, by decide +kernel⟩
theorem mi_X10_endVote : MI RX10 yX10_endVote cX10_endVote 3 (Option.some Jvm.ClassFile.FieldType.int) 0 := ⟨qw1270, qw1271, qw6, qw1272, rfl, by decide, by decide, by decide +kernel⟩
theorem mi_X11_recount : MI RX11 yX11_recount cX11_recount 1 (Option.some Jvm.ClassFile.FieldType.int) 0 := ⟨qw1274, qw1275, qw1, qw1276, rfl, by decide, by decide, by decide +kernel⟩
theorem mi_X10_strikeAllWrong : MI RX10 yX10_strikeAllWrong cX10_strikeAllWrong 4 (Option.some Jvm.ClassFile.FieldType.int) 0 := ⟨qw1279, qw1280, qw6, qw1281, rfl, by decide, by decide, by decide +kernel⟩
theorem mi_X11_pass : MI RX11 yX11_pass cX11_pass 2 (Option.some Jvm.ClassFile.FieldType.int) 1 := ⟨qw1284, qw1285, qw1, qw1286, rfl, by decide, by decide, by decide +kernel⟩
theorem mi_X10_letDaysPass : MI RX10 yX10_letDaysPass cX10_letDaysPass 4 (Option.some Jvm.ClassFile.FieldType.int) 1 := ⟨qw1288, qw1289, qw6, qw1290, rfl, by decide, by decide, by decide +kernel⟩
theorem mi_X2_countDayAtSea : MI RX2 yX2_countDayAtSea cX2_countDayAtSea 2 (Option.none : Option Jvm.ClassFile.FieldType) 0 := ⟨qw1292, qw1293, qw8, qw1294, rfl, by decide, by decide, by decide +kernel⟩
theorem mi_X10_bringHomeTodays : MI RX10 yX10_bringHomeTodays cX10_bringHomeTodays 3 (Option.some Jvm.ClassFile.FieldType.int) 0 := ⟨qw1298, qs25, qw6, qw1299, rfl, by decide, by decide, by decide +kernel⟩
theorem ms_L_stands : MS yL_stands cL_stands 12 (Option.some Jvm.ClassFile.FieldType.boolean) 1 := ⟨qw1303, qw0, qw1304, by decide, by decide, by decide +kernel⟩
theorem mi_X11_agrees : MI RX11 yX11_agrees cX11_agrees 1 (Option.some Jvm.ClassFile.FieldType.boolean) 0 := ⟨qw1306, qw1307, qw1, qw1308, rfl, by decide, by decide, by decide +kernel⟩
theorem mi_X11_carries : MI RX11 yX11_carries cX11_carries 2 (Option.some Jvm.ClassFile.FieldType.int) 1 := ⟨qw1310, qw1311, qw1, qw1312, rfl, by decide, by decide, by decide +kernel⟩
theorem mi_X11_owners : MI RX11 yX11_owners cX11_owners 2 (Option.some Jvm.ClassFile.FieldType.int) 1 := ⟨qw1314, qw1315, qw1, qw1316, rfl, by decide, by decide, by decide +kernel⟩
theorem mi_X11_boat : MI RX11 yX11_boat cX11_boat 3 (Option.some Jvm.ClassFile.FieldType.int) 2 := ⟨qw1320, qw1321, qw1, qw1322, rfl, by decide, by decide, by decide +kernel⟩
theorem mi_X2_belongingTo : MI RX2 yX2_belongingTo cX2_belongingTo 4 (Option.some Jvm.ClassFile.FieldType.int) 1 := ⟨qw1325, qw1326, qw8, qw1327, rfl, by decide, by decide, by decide +kernel⟩
theorem mi_X11_needIfHome : MI RX11 yX11_needIfHome cX11_needIfHome 2 (Option.some Jvm.ClassFile.FieldType.int) 1 := ⟨qw1330, qw1331, qw1, qw1332, rfl, by decide, by decide, by decide +kernel⟩
theorem mi_X11_needIn : MI RX11 yX11_needIn cX11_needIn 2 (Option.some Jvm.ClassFile.FieldType.int) 1 := ⟨qw1335, qw1336, qw1, qw1337, rfl, by decide, by decide, by decide +kernel⟩
theorem mi_X10_needBehind : MI RX10 yX10_needBehind cX10_needBehind 3 (Option.some Jvm.ClassFile.FieldType.int) 1 := ⟨qw1339, qw1340, qw6, qw1341, rfl, by decide, by decide, by decide +kernel⟩
theorem mi_X2_boatsOutOn : MI RX2 yX2_boatsOutOn cX2_boatsOutOn 4 (Option.some Jvm.ClassFile.FieldType.int) 1 := ⟨qw1343, qw1344, qw8, qw1345, rfl, by decide, by decide, by decide +kernel⟩
theorem mi_X11_basket : MI RX11 yX11_basket cX11_basket 2 (Option.some Jvm.ClassFile.FieldType.int) 1 := ⟨qw1347, qw1348, qw1, qw1349, rfl, by decide, by decide, by decide +kernel⟩
theorem mi_X11_share : MI RX11 yX11_share cX11_share 3 (Option.some Jvm.ClassFile.FieldType.float) 1 := ⟨qw1352, qw1353, qw1, qw1354, rfl, by decide, by decide, by decide +kernel⟩
theorem mi_X11_number : MI RX11 yX11_number cX11_number 2 (Option.some Jvm.ClassFile.FieldType.int) 1 := ⟨qw1357, qw1358, qw1, qw1359, rfl, by decide, by decide, by decide +kernel⟩
theorem mi_X11_wrongOnes : MI RX11 yX11_wrongOnes cX11_wrongOnes 1 (Option.some Jvm.ClassFile.FieldType.int) 0 := ⟨qw1362, qw1363, qw1, qw1364, rfl, by decide, by decide, by decide +kernel⟩
theorem mi_X11_seafaring : MI RX11 yX11_seafaring cX11_seafaring 3 (Option.some Jvm.ClassFile.FieldType.double) 0 := ⟨qw1366, qw1367, qw1, qw1368, rfl, by decide, by decide, by decide +kernel⟩
theorem mi_X2_daysAtSeaOfAll : MI RX2 yX2_daysAtSeaOfAll cX2_daysAtSeaOfAll 4 (Option.some Jvm.ClassFile.FieldType.long) 0 := ⟨qw1370, qw1371, qw8, qw1372, rfl, by decide, by decide, by decide +kernel⟩
theorem mi_X11_leads : MI RX11 yX11_leads cX11_leads 1 (Option.some Jvm.ClassFile.FieldType.int) 0 := ⟨qw1374, qw1375, qw1, qw1376, rfl, by decide, by decide, by decide +kernel⟩
theorem ms_L_isDue : MS yL_isDue cL_isDue 10 (Option.some Jvm.ClassFile.FieldType.boolean) 4 := ⟨qw1378, qw0, qw1379, by decide, by decide, by decide +kernel⟩
theorem ms_J6_lowestOneBit_0f7a4 : MS yJ6_lowestOneBit_0f7a4 cJ6_lowestOneBit_0f7a4 1 (Option.some Jvm.ClassFile.FieldType.int) 1 := ⟨qw1381, qw23, qw1382, by decide, by decide, by decide +kernel⟩
theorem mi_X11_truly : MI RX11 yX11_truly cX11_truly 1 (Option.some Jvm.ClassFile.FieldType.int) 0 := ⟨qw1384, qw1385, qw1, qw1386, rfl, by decide, by decide, by decide +kernel⟩
theorem mi_X10_resultOfRightOnes : MI RX10 yX10_resultOfRightOnes cX10_resultOfRightOnes 2 (Option.some Jvm.ClassFile.FieldType.int) 0 := ⟨qw1388, qw1389, qw6, qw1390, rfl, by decide, by decide, by decide +kernel⟩
theorem mi_X0_leaveOut : MI RX0 yX0_leaveOut cX0_leaveOut 2 (Option.none : Option Jvm.ClassFile.FieldType) 1 := ⟨qw1392, qw1393, qw11, qw1394, rfl, by decide, by decide, by decide +kernel⟩
theorem ms_L_foretold : MS yL_foretold cL_foretold 19 (Option.some Jvm.ClassFile.FieldType.boolean) 2 := ⟨qw1396, qw0, qw1397, by decide, by decide, by decide +kernel⟩
theorem ms_L_told : MS yL_told cL_told 4 (Option.some (Jvm.ClassFile.FieldType.object "java/lang/String")) 1 := ⟨qw1399, qw0, qw1400, by decide, by decide, by decide +kernel⟩
theorem ms_L_text : MS yL_text cL_text 5 (Option.some (Jvm.ClassFile.FieldType.object "java/lang/String")) 2 := ⟨qw1402, qw0, qw1403, by decide, by decide, by decide +kernel⟩
theorem mi_X11_viewLength : MI RX11 yX11_viewLength cX11_viewLength 1 (Option.some Jvm.ClassFile.FieldType.int) 0 := ⟨qw1405, qw1406, qw1, qw1407, rfl, by decide, by decide, by decide +kernel⟩
theorem mi_X6_writeView : MI RX6 yX6_writeView cX6_writeView 4 (Option.some (Jvm.ClassFile.FieldType.object "StickVotes$Bytes")) 2 := ⟨qw1409, qw1410, qw13, qw1411, rfl, by decide, by decide, by decide +kernel⟩
theorem mi_X7_personName : MI RX7 yX7_personName cX7_personName 2 (Option.some Jvm.ClassFile.FieldType.int) 1 := ⟨qw1415, qw1416, qw5, qw1417, rfl, by decide, by decide, by decide +kernel⟩
theorem mi_X1_addName : MI RX1 yX1_addName cX1_addName 4 (Option.none : Option Jvm.ClassFile.FieldType) 1 := ⟨qw1419, qw1420, qw3, qw1421, rfl, by decide, by decide, by decide +kernel⟩
theorem mi_X6_writeStick : MI RX6 yX6_writeStick cX6_writeStick 6 (Option.none : Option Jvm.ClassFile.FieldType) 3 := ⟨qw1425, qs26, qw13, qw1426, rfl, by decide, by decide, by decide +kernel⟩
theorem ms_X6_placeWord : MS yX6_placeWord cX6_placeWord 1 (Option.some (Jvm.ClassFile.FieldType.object "java/lang/String")) 1 := ⟨qw1431, qw13, qw1432, by decide, by decide, by decide +kernel⟩
theorem mi_X1_addText : MI RX1 yX1_addText cX1_addText 3 (Option.none : Option Jvm.ClassFile.FieldType) 1 := ⟨qw1438, qw1439, qw3, qw1440, rfl, by decide, by decide, by decide +kernel⟩
theorem mi_X6_writeNumber : MI RX6 yX6_writeNumber cX6_writeNumber 2 (Option.none : Option Jvm.ClassFile.FieldType) 1 := ⟨qw1445, qs27, qw13, qw1446, rfl, by decide, by decide, by decide +kernel⟩
theorem mi_X1_addNumber : MI RX1 yX1_addNumber cX1_addNumber 7 (Option.none : Option Jvm.ClassFile.FieldType) 1 := ⟨qw1448, qw1449, qw3, qw1450, rfl, by decide, by decide, by decide +kernel⟩
theorem mi_X11_storyLength : MI RX11 yX11_storyLength cX11_storyLength 1 (Option.some Jvm.ClassFile.FieldType.int) 0 := ⟨qw1456, qw1457, qw1, qw1458, rfl, by decide, by decide, by decide +kernel⟩
theorem mi_X6_writeStory : MI RX6 yX6_writeStory cX6_writeStory 4 (Option.some (Jvm.ClassFile.FieldType.object "StickVotes$Bytes")) 1 := ⟨qw1460, qw1461, qw13, qw1462, rfl, by decide, by decide, by decide +kernel⟩
theorem mi_X5_part : MI RX5 yX5_part cX5_part 3 (Option.some Jvm.ClassFile.FieldType.int) 2 := ⟨qw1466, qw1467, qw10, qw1468, rfl, by decide, by decide, by decide +kernel⟩
theorem ms_X6_kindWord : MS yX6_kindWord cX6_kindWord 1 (Option.some (Jvm.ClassFile.FieldType.object "java/lang/String")) 1 := ⟨qw1471, qw13, qw1472, by decide, by decide, by decide +kernel⟩
theorem mi_X11_setupLength : MI RX11 yX11_setupLength cX11_setupLength 1 (Option.some Jvm.ClassFile.FieldType.int) 0 := ⟨qw1480, qw1481, qw1, qw1482, rfl, by decide, by decide, by decide +kernel⟩
theorem mi_X6_writeSetup : MI RX6 yX6_writeSetup cX6_writeSetup 4 (Option.some (Jvm.ClassFile.FieldType.object "StickVotes$Bytes")) 2 := ⟨qw1484, qw1485, qw13, qw1486, rfl, by decide, by decide, by decide +kernel⟩
theorem mi_X6_writeNumbers : MI RX6 yX6_writeNumbers cX6_writeNumbers 3 (Option.none : Option Jvm.ClassFile.FieldType) 1 := ⟨qw1489, qs28, qw13, qw1490, rfl, by decide, by decide, by decide +kernel⟩
theorem mi_X7_boatName : MI RX7 yX7_boatName cX7_boatName 2 (Option.some Jvm.ClassFile.FieldType.int) 1 := ⟨qw1502, qw1503, qw5, qw1504, rfl, by decide, by decide, by decide +kernel⟩
theorem mi_X6_writePerson : MI RX6 yX6_writePerson cX6_writePerson 5 (Option.none : Option Jvm.ClassFile.FieldType) 3 := ⟨qw1507, qs29, qw13, qw1508, rfl, by decide, by decide, by decide +kernel⟩
theorem mi_X11_viewByte : MI RX11 yX11_viewByte cX11_viewByte 2 (Option.some Jvm.ClassFile.FieldType.int) 1 := ⟨qw1513, qw1514, qw1, qw1515, rfl, by decide, by decide, by decide +kernel⟩
theorem mi_X11_storyByte : MI RX11 yX11_storyByte cX11_storyByte 2 (Option.some Jvm.ClassFile.FieldType.int) 1 := ⟨qw1518, qw1519, qw1, qw1520, rfl, by decide, by decide, by decide +kernel⟩
theorem mi_X11_setupByte : MI RX11 yX11_setupByte cX11_setupByte 2 (Option.some Jvm.ClassFile.FieldType.int) 1 := ⟨qw1522, qw1523, qw1, qw1524, rfl, by decide, by decide, by decide +kernel⟩
theorem mi_X11_past : MI RX11 yX11_past cX11_past 3 (Option.some Jvm.ClassFile.FieldType.int) 2 := ⟨qw1528, qw1529, qw1, qw1530, rfl, by decide, by decide, by decide +kernel⟩
theorem mi_X11_why : MI RX11 yX11_why cX11_why 5 (Option.some Jvm.ClassFile.FieldType.int) 3 := ⟨qw1533, qw1534, qw1, qw1535, rfl, by decide, by decide, by decide +kernel⟩
theorem mi_X11_undo : MI RX11 yX11_undo cX11_undo 1 (Option.some Jvm.ClassFile.FieldType.int) 0 := ⟨qw1538, qw1539, qw1, qw1540, rfl, by decide, by decide, by decide +kernel⟩
theorem mi_X3_bringBack : MI RX3 yX3_bringBack cX3_bringBack 3 (Option.some Jvm.ClassFile.FieldType.boolean) 1 := ⟨qw1542, qw1543, qw12, qw1544, rfl, by decide, by decide, by decide +kernel⟩
theorem mi_X3_steps : MI RX3 yX3_steps cX3_steps 1 (Option.some Jvm.ClassFile.FieldType.int) 0 := ⟨qw1546, qw1547, qw12, qw1548, rfl, by decide, by decide, by decide +kernel⟩
theorem mi_X11_lacks : MI RX11 yX11_lacks cX11_lacks 1 (Option.some Jvm.ClassFile.FieldType.int) 0 := ⟨qw1550, qw1551, qw1, qw1552, rfl, by decide, by decide, by decide +kernel⟩
theorem mi_X11_canWin : MI RX11 yX11_canWin cX11_canWin 2 (Option.some Jvm.ClassFile.FieldType.boolean) 1 := ⟨qw1555, qw1556, qw1, qw1557, rfl, by decide, by decide, by decide +kernel⟩
theorem mi_X10_resultWithAllInto : MI RX10 yX10_resultWithAllInto cX10_resultWithAllInto 3 (Option.some Jvm.ClassFile.FieldType.int) 1 := ⟨qw1559, qw1560, qw6, qw1561, rfl, by decide, by decide, by decide +kernel⟩
theorem mi_X10_canBeLaid : MI RX10 yX10_canBeLaid cX10_canBeLaid 3 (Option.some Jvm.ClassFile.FieldType.boolean) 1 := ⟨qw1564, qs30, qw6, qw1565, rfl, by decide, by decide, by decide +kernel⟩
theorem mi_X0_put : MI RX0 yX0_put cX0_put 3 (Option.none : Option Jvm.ClassFile.FieldType) 2 := ⟨qw1569, qw1570, qw11, qw1571, rfl, by decide, by decide, by decide +kernel⟩
theorem mi_X11_bestDay : MI RX11 yX11_bestDay cX11_bestDay 2 (Option.some Jvm.ClassFile.FieldType.int) 1 := ⟨qw1573, qw1574, qw1, qw1575, rfl, by decide, by decide, by decide +kernel⟩
theorem mi_X10_bestDayUpTo : MI RX10 yX10_bestDayUpTo cX10_bestDayUpTo 6 (Option.some Jvm.ClassFile.FieldType.int) 1 := ⟨qw1577, qw1578, qw6, qw1579, rfl, by decide, by decide, by decide +kernel⟩
theorem mi_X10_surplusBehind : MI RX10 yX10_surplusBehind cX10_surplusBehind 3 (Option.some Jvm.ClassFile.FieldType.int) 1 := ⟨qw1582, qs31, qw6, qw1583, rfl, by decide, by decide, by decide +kernel⟩
theorem mi_X2_peopleAtSeaOn : MI RX2 yX2_peopleAtSeaOn cX2_peopleAtSeaOn 4 (Option.some Jvm.ClassFile.FieldType.int) 1 := ⟨qw1585, qw1586, qw8, qw1587, rfl, by decide, by decide, by decide +kernel⟩
theorem mi_J0_equals_9ea2d : MI RJ0 yJ0_equals_9ea2d cJ0_equals_9ea2d 3 (Option.some Jvm.ClassFile.FieldType.boolean) 1 := ⟨qw1590, qw1591, qw16, qw1592, rfl, by decide, by decide, by decide +kernel⟩
theorem ms_J1_equals_b5fdf : MS yJ1_equals_b5fdf cJ1_equals_b5fdf 3 (Option.some Jvm.ClassFile.FieldType.boolean) 2 := ⟨qw1595, qw22, qw1596, by decide, by decide, by decide +kernel⟩
theorem ms_L_undone : MS yL_undone cL_undone 7 (Option.some Jvm.ClassFile.FieldType.boolean) 2 := ⟨qw1598, qw0, qw1599, by decide, by decide, by decide +kernel⟩
theorem mi_X11_keep : MI RX11 yX11_keep cX11_keep 2 (Option.some Jvm.ClassFile.FieldType.int) 1 := ⟨qw1601, qw1602, qw1, qw1603, rfl, by decide, by decide, by decide +kernel⟩
theorem mi_X11_isSlot : MI RX11 yX11_isSlot cX11_isSlot 2 (Option.some Jvm.ClassFile.FieldType.boolean) 1 := ⟨qw1606, qs32, qw1, qw1607, rfl, by decide, by decide, by decide +kernel⟩
theorem mi_X11_restore : MI RX11 yX11_restore cX11_restore 2 (Option.some Jvm.ClassFile.FieldType.int) 1 := ⟨qw1610, qw1611, qw1, qw1612, rfl, by decide, by decide, by decide +kernel⟩
