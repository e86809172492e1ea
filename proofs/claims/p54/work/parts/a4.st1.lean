/-! THE LAW: stands -/
/-- how a law method that may draw ends -/
def LEnd (p : Program) (l : Launch) (e : Env) (R : Room) (s : State) (m : MethodId) (args : Array Value) (below : List Frame) (meth : Method) (c : Code) (Qc : Array Value → State → Outcome → State → Prop) (A : Nat → Prop) (Z : State → Prop) (mc ms : Nat) : Prop := ∀ (d1 : Drawn) (H : Heap) (locs : List Loc) (g : JFrame) (cl sl : Nat), s.drawn.sameBut d1 lw_cs → W p l e R (s.setDrawn d1) m args below meth c H locs cl sl (MQ below Qc args (s.setDrawn d1) mc ms A) g → W p l e R (s.setDrawn d1) m args below meth c H locs cl sl Z g
theorem LEnd.drawn {p : Program} {l : Launch} {e : Env} {R : Room} {s : State} {m : MethodId} {args : Array Value} {below : List Frame} {meth : Method} {c : Code} {Qc : Array Value → State → Outcome → State → Prop} {A : Nat → Prop} {Z : State → Prop} {mc ms : Nat} (h : LEnd p l e R s m args below meth c Qc A Z mc ms) {d : Drawn} (hd : s.drawn.sameBut d lw_cs) : LEnd p l e R (s.setDrawn d) m args below meth c Qc A Z mc ms :=
  fun d1 H locs g cl sl h1 k => h d1 H locs g cl sl (hd.trans h1) k
theorem CallFix.drawn {p : Program} {m : MethodId} {c : Code} {cc : ByteArray} {nL : Nat} {s : State} {args : Array Value} {own : String} (S : CallFix p m c cc nL s args lw_all own) (d : Drawn) : CallFix p m c cc nL (s.setDrawn d) args lw_all own := ⟨S.1, S.2.1, S.2.2.1, S.2.2.2.1, dr_words S.2.2.2.2 d⟩
/-- person p's stick and whereabouts -/
def PF (v : VT) (p : Int32) : Prop :=
  ((a_stick v p 0 = 0 ∧ a_stick v p 3 = -2 ∧ a_stick v p 1 = -2 ∧ a_stick v p 2 = -2 ∧ a_stick v p 5 = 0) ∨
   (a_stick v p 0 = 1 ∧ a_stick v p 3 = -2 ∧ ¬ a_stick v p 1 < 0 ∧ (a_carries v (a_stick v p 1) >>> (p &&& 31)) &&& 1 = 1) ∨
   (a_stick v p 0 = 2 ∧ ¬ a_stick v p 3 = -2 ∧ (a_owners v (a_stick v p 3) >>> (p &&& 31)) &&& 1 = 1 ∧ a_stick v p 1 = -2 ∧ a_stick v p 5 = 0) ∨
   (a_stick v p 0 = 2 ∧ ¬ a_stick v p 3 = -2 ∧ (a_owners v (a_stick v p 3) >>> (p &&& 31)) &&& 1 = 1 ∧ ¬ a_stick v p 1 < 0 ∧ a_stick v p 5 = 0) ∨
   (a_stick v p 0 = 2 ∧ ¬ a_stick v p 3 = -2 ∧ (a_owners v (a_stick v p 3) >>> (p &&& 31)) &&& 1 = 1 ∧ ¬ a_stick v p 1 < 0 ∧ ¬ a_stick v p 5 ≤ 0) ∨
   (a_stick v p 0 = 3 ∧ ¬ a_stick v p 3 = -2 ∧ (a_owners v (a_stick v p 3) >>> (p &&& 31)) &&& 1 = 0 ∧ ¬ a_stick v p 1 < 0 ∧ ¬ a_stick v p 5 ≤ 0)) ∧
  ¬ a_stick v p 1 = p ∧ f_J6_bitCount_0f7a4 (a_carries v p) = a_person v p 4 ∧
  ((a_person v p 1 = 0 ∧ a_person v p 2 = a_value v 0) ∨ (¬ a_person v p 1 = 0 ∧ ¬ a_person v p 0 < 0 ∧ a_boat v (a_person v p 0) 0 = 1 ∧ a_person v p 2 = a_boat v (a_person v p 0) 1)) ∧ a_person v p 3 ≤ 3
def BF (v : VT) (b : Int32) : Prop :=
  ((a_boat v b 0 = 1 ∧ ¬ a_boat v b 1 ≤ a_value v 0 ∧ ¬ a_needIfHome v b < a_needIn v 0) ∨ (¬ a_boat v b 0 = 1 ∧ a_boat v b 1 ≤ a_value v 0 ∧ a_boat v b 2 = 0 ∧ a_needIfHome v b = -4)) ∧ ¬ a_boat v b 3 < a_boat v b 2
def KF (v : VT) (b : Int32) : Prop :=
  a_basket v b = f_J6_bitCount_0f7a4 (a_owners v b) ∧ (∀ r1 r2 : UInt32, alike32 r1 (a_share v b) = true → ((a_value v 7 = 0 ∧ r2 = FP.fconst0) ∨ (¬ a_value v 7 = 0 ∧ alike32 r2 (FP.fdiv (FP.i2f (a_basket v b)) (FP.i2f (a_value v 7))) = true)) → Op.cmpValue (FP.fcmp r1 r2) .l = 0) ∧ (b < a_value v 9 ∨ (¬ b < a_value v 9 ∧ a_basket v b = 0))
noncomputable def sSea (v : VT) (n : Nat) : Int32 := iter_ (fun k r => r + a_person v (nI k) 1) 0 n
noncomputable def sSum (v : VT) (n : Nat) : Int32 := iter_ (fun k r => r + a_person v (nI k) 6) 0 n
noncomputable def sStr (v : VT) (n : Nat) : Int32 := iter_ (fun k r => r + (if a_stick v (nI k) 0 = 3 then 1 else 0)) 0 n
noncomputable def sTrn (v : VT) (n : Nat) : Int32 := iter_ (fun k r => r + (if a_stick v (nI k) 0 = 2 then 1 else 0)) 0 n
noncomputable def sWrg (v : VT) (n : Nat) : Int32 := iter_ (fun k r => r ||| (if a_stick v (nI k) 0 = 2 ∧ ¬ a_stick v (nI k) 5 ≤ 0 then ((1 : Int32) <<< (nI k &&& 31)) else 0)) 0 n
noncomputable def sOut (v : VT) (n : Nat) : Int32 := iter_ (fun k r => r + a_boat v (nI k) 0) 0 n
noncomputable def sAbo (v : VT) (n : Nat) : Int32 := iter_ (fun k r => r + a_boat v (nI k) 2) 0 n
noncomputable def sAll (v : VT) : Int32 := ((((0 : Int32) + a_basket v 0) + a_basket v 1) + a_basket v 2) + a_basket v 3
noncomputable def sNeed (v : VT) (n out : Int32) : Int32 := mx (a_number v 6) ((a_number v (1 + a_value v 1) * n + 99) / 100 - a_number v 5 * out)
/-- all that is asked at the end -/
def TF (v : VT) (P B : Nat) : Prop :=
  sSea v P = a_value v 5 ∧ sSea v P = sAbo v B ∧ sOut v B = a_value v 4 ∧ sTrn v P = a_value v 7 ∧ sAll v = sTrn v P ∧ sStr v P = a_value v 11 ∧ sWrg v P = a_wrongOnes v ∧ f_J6_bitCount_0f7a4 (sWrg v P) = a_value v 16 ∧ a_value v 15 = nI P - sSea v P ∧ a_needIn v 0 = sNeed v (nI P) (sOut v B) ∧
  ((¬ a_value v 8 ≤ 1) ∨ (a_value v 8 ≤ 1 ∧ a_value v 6 = sNeed v (nI P) (sOut v B))) ∧
  (∀ r1 r2 : UInt64, alike64 r1 (a_seafaring v) = true → ((a_value v 0 = 0 ∧ r2 = FP.dconst0) ∨ (¬ a_value v 0 = 0 ∧ alike64 r2 (FP.ddiv (FP.i2d (sSum v P)) (FP.i2d (a_value v 0 * nI P))) = true)) → Op.cmpValue (FP.dcmp r1 r2) .l = 0) ∧
  ((a_value v 8 = 1 ∧ DUE v (a_leads v) (a_value v 6) 0) ∨ (¬ a_value v 8 = 1 ∧ DUE v (a_value v 10) (a_value v 6) 0)) ∧
  ((a_value v 8 = 0 ∧ DUE v (-2) (a_value v 6) (sWrg v P)) ∨ (¬ a_value v 8 = 0 ∧ DUE v (a_truly v) (a_value v 6) (sWrg v P)))
section ST
variable {pg : Program} {l : Launch} {en : Env} {s : State} {mi : MethodId} {ar : Array Value} {below : List Frame} {me : Method} {co : Code} {H : Heap} {locs : List Loc} {Z : State → Prop} {ls : Array Slot} {D : va_G} {A : Nat → Prop} {α : Nat → Nat} {w0 w : va_W} {v : VT} {N P B Q : Nat}
abbrev stQ (D : va_G) (A : Nat → Prop) (α : Nat → Nat) (w0 : va_W) (v : VT) : Array Value → State → Outcome → State → Prop := gQ D A (some (.int 1)) (fun w1 => OB D α w1 v ∧ Same w0 w1 0 234)
theorem g_VD0 {p : Program} {e : Env} {R : Room} {m : MethodId} {args : Array Value} {meth : Method} {c : Code} {cells slots : Nat} {cc : ByteArray} {nL pc : Nat} {rest : List Value} {ws : va_W} {own : String} {y : MethodName} {bytes : ByteArray} {maxL n index b mc ms : Nat} {C : String} {ret : Option FieldType} {rm : Room} {As : List Value} {Qc : Array Value → State → Outcome → State → Prop} {st0 : List Value} (S : CallFix p m c cc nL s args lw_all own) (I : MI C y bytes maxL ret n) (L : Cond.methodLink own index y ∈ lw_all)
    (hM : MetD lw_cs l y (ws_ y bytes maxL ret) rm (gPre D A (.ref b :: As) ws) Qc mc ms A) (hK : va_K D vwCl (gTys D) s) (hP : va_P D vwCl ws H) (hD : va_D A ws) (hE : EV D A s s.heap) (hS : va_S A s.heap H locs)
    (hr : ∃ cell : Cell, H[b]? = some cell ∧ cell.vm.isStatics = false ∧ s.vm.findClass C = some cell.cls) (hst : st0 = As.reverse ++ .ref b :: rest) (hn : As.length = n) (hls : ls.size = nL) (hW : (rest.map fun v => v.category).sum ≤ 8)
    (hrc : rm.cells = mc) (hrs : rm.slots = ms) (hR : rm.frames + 1 ≤ R.frames ∧ 8 + (maxL + 11) + rm.locals ≤ R.locals) (hf : cells + mc ≤ R.cells ∧ slots + ms ≤ R.slots) (hdg : decode cc pc = .ok (.invokevirtual index, 3)) :
    va_RunD lw_cs p l e R s m args below meth c H locs cells slots mc ms (F0 m pc ls st0) rest (Qc (Value.ref b :: As).toArray) A := by
  obtain ⟨i1, i2, i3, i4, i5⟩ := I
  have hts := S.2.2.2.2
  refine va_runV_D (As := As) (rest := rest) (index := index) (n := n) S hM ⟨callB_of n hts (ws_good i4) rfl hrc hrs (by rw [i5.1]; exact hts _ i3) (hts _ L) i5.2 hR, hts _ i1, hts _ i2⟩ ⟨gPre.blind, hr, g_pre hK hP hD hE hS⟩ rfl hn hls hst (lv_room hW) hdg hf
theorem x_aftF {p : Program} {e : Env} {R : Room} {m : MethodId} {args : Array Value} {meth : Method} {c : Code} {cells slots pc : Nat} {rest st0 : List Value} {Qz : State → Prop} {a : Array Value} {x : UInt32} {H0 : Heap} (hr : va_RunD lw_cs p l e R s m args below meth c H locs cells slots 0 0 (F0 m pc ls st0) rest (gF x a) A) (hS : va_S A H0 H locs)
    (kk : ∀ (r : UInt32) (locs1 : List Loc) (d1 : Drawn), alike32 r x = true → va_S A H0 H locs1 → s.drawn.sameBut d1 lw_cs → W p l e R (s.setDrawn d1) m args below meth c H locs1 cells slots Qz (F0 m (pc + 3) ls (.float r :: rest))) : W p l e R s m args below meth c H locs cells slots Qz (F0 m pc ls st0) := by
  intro T hT X
  obtain ⟨v, st₀, t, T', L, d', hd', h0, X', hL, e1, e2, ⟨⟨r, hv, ha⟩, hh⟩, st⟩ := hr T hT X
  cases hv
  obtain ⟨t2, a1, b1⟩ := kk r (locs ++ L) d' ha ⟨hS.1, hS.2.1, fun q hq => by
      rcases List.mem_append.mp hq with h | h
      · exact hS.2.2 q h
      · exact hL q h⟩ hd' T' (by rw [e1, hh, h0]) X'
  exact ⟨t2, st t2 a1, b1⟩
theorem x_aftDb {p : Program} {e : Env} {R : Room} {m : MethodId} {args : Array Value} {meth : Method} {c : Code} {cells slots pc : Nat} {rest st0 : List Value} {Qz : State → Prop} {a : Array Value} {x : UInt64} {H0 : Heap} (hr : va_RunD lw_cs p l e R s m args below meth c H locs cells slots 0 0 (F0 m pc ls st0) rest (gD x a) A) (hS : va_S A H0 H locs)
    (kk : ∀ (r : UInt64) (locs1 : List Loc) (d1 : Drawn), alike64 r x = true → va_S A H0 H locs1 → s.drawn.sameBut d1 lw_cs → W p l e R (s.setDrawn d1) m args below meth c H locs1 cells slots Qz (F0 m (pc + 3) ls (.double r :: rest))) : W p l e R s m args below meth c H locs cells slots Qz (F0 m pc ls st0) := by
  intro T hT X
  obtain ⟨v, st₀, t, T', L, d', hd', h0, X', hL, e1, e2, ⟨⟨r, hv, ha⟩, hh⟩, st⟩ := hr T hT X
  cases hv
  obtain ⟨t2, a1, b1⟩ := kk r (locs ++ L) d' ha ⟨hS.1, hS.2.1, fun q hq => by
      rcases List.mem_append.mp hq with h | h
      · exact hS.2.2 q h
      · exact hL q h⟩ hd' T' (by rw [e1, hh, h0]) X'
  exact ⟨t2, st t2 a1, b1⟩
set_option maxHeartbeats 4000000 in
set_option maxRecDepth 100000 in
theorem st_t3 (S : CallFix pg mi co cL_stands 12 s ar lw_all RL) (hK : va_K D vwCl (gTys D) s) (hP : va_P D vwCl w H) (hD : va_D A w) (hE : EV D A s s.heap) (hS : va_S A s.heap H locs) (hr : me.sig.returnType = some .boolean) (hlk : me.locks = false) (hB : OB D α w v) (hs0 : Same w0 w 0 234) (hR : RA N P B Q v) (hN : N ≤ 600) (hEnd : LEnd pg l en ({ frames := 9, cells := 0, slots := 0, locals := 230 } : Room) s mi ar below me co (stQ D A α w0 v) A Z 0 0) (hl : lv_has ls 12 [(0, .ref (α 0)), (1, .int (nI P)), (2, .int (sSea v P)), (3, .int (sStr v P)), (4, .int (sTrn v P)), (5, .int (sWrg v P)), (6, .int (sSum v P)), (7, .int 1), (8, .int (sOut v B)), (9, .int (sAbo v B)), (10, .int (sAll v))]) (hT : TF v P B)  : W pg l en ({ frames := 9, cells := 0, slots := 0, locals := 230 } : Room) s mi ar below me co H locs 0 0 Z (F0 mi 938 ls []) := by
  obtain ⟨-, -, -, -, -, -, -, -, -, -, -, -, -, h4⟩ := hT
  rcases h4 with ⟨c, hd⟩ | ⟨c, hd⟩
  · refine lv_aload_n S.1 S.2.1 dL_stands_938 rfl (lv_at hl 0 rfl) ?_
    refine lv_aload_n S.1 S.2.1 dL_stands_939 rfl (lv_at hl 0 rfl) ?_
    refine lv_bipush (v := 8) S.1 S.2.1 dL_stands_940 (by decide) ?_
    refine x_aftQ (st1 := [.int (a_value v (8 : Int32)), .ref (α 0)]) (x_V0 (As := [.int 8]) (rest := [.ref (α 0)]) S mi_X11_value qw725 (k_value l D A w α hR hN (8 : Int32) hB) hK hP hD (hE.kept hS.2.1) (hB.recv hK hP) rfl rfl hl.1 (Nat.le_of_ble_eq_true rfl) rfl rfl ⟨(Nat.le_of_ble_eq_true rfl), (Nat.le_of_ble_eq_true rfl)⟩ ⟨(Nat.le_of_ble_eq_true rfl), (Nat.le_of_ble_eq_true rfl)⟩ dL_stands_942) hS (fun _ h => h) rfl (fun w21 H locs hq hP hD hz hk hS => ?_)
    obtain ⟨hB, hsm⟩ := hq
    have hs0 := hs0.trans hsm
    clear hz hk
    refine lv_if_ne (tgt := 953) S.1 S.2.1 dL_stands_945 (by decide) (fun z9 => absurd (c) z9) (fun _ => ?_)
    refine lv_bipush (v := (-2)) S.1 S.2.1 dL_stands_948 (by decide) ?_
    refine lv_goto (tgt := 957) S.1 S.2.1 dL_stands_950 (by decide) ?_
    refine lv_aload_n S.1 S.2.1 dL_stands_957 rfl (lv_at hl 0 rfl) ?_
    refine lv_bipush (v := 6) S.1 S.2.1 dL_stands_958 (by decide) ?_
    refine x_aftQ (st1 := [.int (a_value v (6 : Int32)), .int (-2), .ref (α 0)]) (x_V0 (As := [.int 6]) (rest := [.int (-2), .ref (α 0)]) S mi_X11_value qw725 (k_value l D A w21 α hR hN (6 : Int32) hB) hK hP hD (hE.kept hS.2.1) (hB.recv hK hP) rfl rfl hl.1 (Nat.le_of_ble_eq_true rfl) rfl rfl ⟨(Nat.le_of_ble_eq_true rfl), (Nat.le_of_ble_eq_true rfl)⟩ ⟨(Nat.le_of_ble_eq_true rfl), (Nat.le_of_ble_eq_true rfl)⟩ dL_stands_960) hS (fun _ h => h) rfl (fun w22 H locs hq hP hD hz hk hS => ?_)
    obtain ⟨hB, hsm⟩ := hq
    have hs0 := hs0.trans hsm
    clear hz hk
    refine lv_iload S.1 S.2.1 dL_stands_963 (lv_at hl 5 rfl) ?_
    refine x_aftR (st1 := [.int 1]) (x_St0 (As := [.ref (α 0), .int (-2), .int (a_value v (6 : Int32)), .int (sWrg v P)]) (rest := []) S ms_L_isDue qw1377 (l_isDue l D A w22 α hB ((-2) : Int32) (a_value v (6 : Int32)) (sWrg v P) hd) hK hP hD (hE.kept hS.2.1) rfl rfl hl.1 (Nat.le_of_ble_eq_true rfl) rfl rfl ⟨(Nat.le_of_ble_eq_true rfl), (Nat.le_of_ble_eq_true rfl)⟩ ⟨(Nat.le_of_ble_eq_true rfl), (Nat.le_of_ble_eq_true rfl)⟩ dL_stands_965) hS (fun _ h => h) rfl (fun locs hS => ?_)
    refine lv_if_eq (tgt := 975) S.1 S.2.1 dL_stands_968 (by decide) (fun z9 => absurd z9 (by decide)) (fun _ => ?_)
    refine lv_iconst (v := 1) S.1 S.2.1 dL_stands_971 (by decide) ?_
    refine lv_goto (tgt := 976) S.1 S.2.1 dL_stands_972 (by decide) ?_
    exact W.base (hEnd s.drawn _ _ _ _ _ (Drawn.sameBut.refl s.drawn lw_cs) (g_zret S hr hlk hP hD hS (by decide) rfl ⟨hB, hs0⟩ dL_stands_976))
  · refine lv_aload_n S.1 S.2.1 dL_stands_938 rfl (lv_at hl 0 rfl) ?_
    refine lv_aload_n S.1 S.2.1 dL_stands_939 rfl (lv_at hl 0 rfl) ?_
    refine lv_bipush (v := 8) S.1 S.2.1 dL_stands_940 (by decide) ?_
    refine x_aftQ (st1 := [.int (a_value v (8 : Int32)), .ref (α 0)]) (x_V0 (As := [.int 8]) (rest := [.ref (α 0)]) S mi_X11_value qw725 (k_value l D A w α hR hN (8 : Int32) hB) hK hP hD (hE.kept hS.2.1) (hB.recv hK hP) rfl rfl hl.1 (Nat.le_of_ble_eq_true rfl) rfl rfl ⟨(Nat.le_of_ble_eq_true rfl), (Nat.le_of_ble_eq_true rfl)⟩ ⟨(Nat.le_of_ble_eq_true rfl), (Nat.le_of_ble_eq_true rfl)⟩ dL_stands_942) hS (fun _ h => h) rfl (fun w21 H locs hq hP hD hz hk hS => ?_)
    obtain ⟨hB, hsm⟩ := hq
    have hs0 := hs0.trans hsm
    clear hz hk
    refine lv_if_ne (tgt := 953) S.1 S.2.1 dL_stands_945 (by decide) (fun _ => ?_) (fun z9 => absurd z9 (c))
    refine lv_aload_n S.1 S.2.1 dL_stands_953 rfl (lv_at hl 0 rfl) ?_
    refine x_aftQ (st1 := [.int (a_truly v), .ref (α 0)]) (x_V0 (As := []) (rest := [.ref (α 0)]) S mi_X11_truly qw1383 (k_truly l D A w21 α hR hN  hB) hK hP hD (hE.kept hS.2.1) (hB.recv hK hP) rfl rfl hl.1 (Nat.le_of_ble_eq_true rfl) rfl rfl ⟨(Nat.le_of_ble_eq_true rfl), (Nat.le_of_ble_eq_true rfl)⟩ ⟨(Nat.le_of_ble_eq_true rfl), (Nat.le_of_ble_eq_true rfl)⟩ dL_stands_954) hS (fun _ h => h) rfl (fun w22 H locs hq hP hD hz hk hS => ?_)
    obtain ⟨hB, hsm⟩ := hq
    have hs0 := hs0.trans hsm
    clear hz hk
    refine lv_aload_n S.1 S.2.1 dL_stands_957 rfl (lv_at hl 0 rfl) ?_
    refine lv_bipush (v := 6) S.1 S.2.1 dL_stands_958 (by decide) ?_
    refine x_aftQ (st1 := [.int (a_value v (6 : Int32)), .int (a_truly v), .ref (α 0)]) (x_V0 (As := [.int 6]) (rest := [.int (a_truly v), .ref (α 0)]) S mi_X11_value qw725 (k_value l D A w22 α hR hN (6 : Int32) hB) hK hP hD (hE.kept hS.2.1) (hB.recv hK hP) rfl rfl hl.1 (Nat.le_of_ble_eq_true rfl) rfl rfl ⟨(Nat.le_of_ble_eq_true rfl), (Nat.le_of_ble_eq_true rfl)⟩ ⟨(Nat.le_of_ble_eq_true rfl), (Nat.le_of_ble_eq_true rfl)⟩ dL_stands_960) hS (fun _ h => h) rfl (fun w23 H locs hq hP hD hz hk hS => ?_)
    obtain ⟨hB, hsm⟩ := hq
    have hs0 := hs0.trans hsm
    clear hz hk
    refine lv_iload S.1 S.2.1 dL_stands_963 (lv_at hl 5 rfl) ?_
    refine x_aftR (st1 := [.int 1]) (x_St0 (As := [.ref (α 0), .int (a_truly v), .int (a_value v (6 : Int32)), .int (sWrg v P)]) (rest := []) S ms_L_isDue qw1377 (l_isDue l D A w23 α hB (a_truly v) (a_value v (6 : Int32)) (sWrg v P) hd) hK hP hD (hE.kept hS.2.1) rfl rfl hl.1 (Nat.le_of_ble_eq_true rfl) rfl rfl ⟨(Nat.le_of_ble_eq_true rfl), (Nat.le_of_ble_eq_true rfl)⟩ ⟨(Nat.le_of_ble_eq_true rfl), (Nat.le_of_ble_eq_true rfl)⟩ dL_stands_965) hS (fun _ h => h) rfl (fun locs hS => ?_)
    refine lv_if_eq (tgt := 975) S.1 S.2.1 dL_stands_968 (by decide) (fun z9 => absurd z9 (by decide)) (fun _ => ?_)
    refine lv_iconst (v := 1) S.1 S.2.1 dL_stands_971 (by decide) ?_
    refine lv_goto (tgt := 976) S.1 S.2.1 dL_stands_972 (by decide) ?_
    exact W.base (hEnd s.drawn _ _ _ _ _ (Drawn.sameBut.refl s.drawn lw_cs) (g_zret S hr hlk hP hD hS (by decide) rfl ⟨hB, hs0⟩ dL_stands_976))
set_option maxHeartbeats 4000000 in
set_option maxRecDepth 100000 in
theorem st_t2 (S : CallFix pg mi co cL_stands 12 s ar lw_all RL) (hK : va_K D vwCl (gTys D) s) (hP : va_P D vwCl w H) (hD : va_D A w) (hE : EV D A s s.heap) (hS : va_S A s.heap H locs) (hr : me.sig.returnType = some .boolean) (hlk : me.locks = false) (hB : OB D α w v) (hs0 : Same w0 w 0 234) (hR : RA N P B Q v) (hN : N ≤ 600) (hEnd : LEnd pg l en ({ frames := 9, cells := 0, slots := 0, locals := 230 } : Room) s mi ar below me co (stQ D A α w0 v) A Z 0 0) (hl : lv_has ls 12 [(0, .ref (α 0)), (1, .int (nI P)), (2, .int (sSea v P)), (3, .int (sStr v P)), (4, .int (sTrn v P)), (5, .int (sWrg v P)), (6, .int (sSum v P)), (7, .int 1), (8, .int (sOut v B)), (9, .int (sAbo v B)), (10, .int (sAll v))]) (hT : TF v P B)  : W pg l en ({ frames := 9, cells := 0, slots := 0, locals := 230 } : Room) s mi ar below me co H locs 0 0 Z (F0 mi 901 ls []) := by
  have h3 := hT.2.2.2.2.2.2.2.2.2.2.2.2.1
  rcases h3 with ⟨c, hd⟩ | ⟨c, hd⟩
  · refine lv_aload_n S.1 S.2.1 dL_stands_901 rfl (lv_at hl 0 rfl) ?_
    refine lv_aload_n S.1 S.2.1 dL_stands_902 rfl (lv_at hl 0 rfl) ?_
    refine lv_bipush (v := 8) S.1 S.2.1 dL_stands_903 (by decide) ?_
    refine x_aftQ (st1 := [.int (a_value v (8 : Int32)), .ref (α 0)]) (x_V0 (As := [.int 8]) (rest := [.ref (α 0)]) S mi_X11_value qw725 (k_value l D A w α hR hN (8 : Int32) hB) hK hP hD (hE.kept hS.2.1) (hB.recv hK hP) rfl rfl hl.1 (Nat.le_of_ble_eq_true rfl) rfl rfl ⟨(Nat.le_of_ble_eq_true rfl), (Nat.le_of_ble_eq_true rfl)⟩ ⟨(Nat.le_of_ble_eq_true rfl), (Nat.le_of_ble_eq_true rfl)⟩ dL_stands_905) hS (fun _ h => h) rfl (fun w21 H locs hq hP hD hz hk hS => ?_)
    obtain ⟨hB, hsm⟩ := hq
    have hs0 := hs0.trans hsm
    clear hz hk
    refine lv_iconst (v := 1) S.1 S.2.1 dL_stands_908 (by decide) ?_
    refine lv_icmp_ne (tgt := 919) S.1 S.2.1 dL_stands_909 (by decide) (fun z9 => absurd (c) z9) (fun _ => ?_)
    refine lv_aload_n S.1 S.2.1 dL_stands_912 rfl (lv_at hl 0 rfl) ?_
    refine x_aftQ (st1 := [.int (a_leads v), .ref (α 0)]) (x_V0 (As := []) (rest := [.ref (α 0)]) S mi_X11_leads qw1373 (k_leads l D A w21 α hR hN  hB) hK hP hD (hE.kept hS.2.1) (hB.recv hK hP) rfl rfl hl.1 (Nat.le_of_ble_eq_true rfl) rfl rfl ⟨(Nat.le_of_ble_eq_true rfl), (Nat.le_of_ble_eq_true rfl)⟩ ⟨(Nat.le_of_ble_eq_true rfl), (Nat.le_of_ble_eq_true rfl)⟩ dL_stands_913) hS (fun _ h => h) rfl (fun w22 H locs hq hP hD hz hk hS => ?_)
    obtain ⟨hB, hsm⟩ := hq
    have hs0 := hs0.trans hsm
    clear hz hk
    refine lv_goto (tgt := 925) S.1 S.2.1 dL_stands_916 (by decide) ?_
    refine lv_aload_n S.1 S.2.1 dL_stands_925 rfl (lv_at hl 0 rfl) ?_
    refine lv_bipush (v := 6) S.1 S.2.1 dL_stands_926 (by decide) ?_
    refine x_aftQ (st1 := [.int (a_value v (6 : Int32)), .int (a_leads v), .ref (α 0)]) (x_V0 (As := [.int 6]) (rest := [.int (a_leads v), .ref (α 0)]) S mi_X11_value qw725 (k_value l D A w22 α hR hN (6 : Int32) hB) hK hP hD (hE.kept hS.2.1) (hB.recv hK hP) rfl rfl hl.1 (Nat.le_of_ble_eq_true rfl) rfl rfl ⟨(Nat.le_of_ble_eq_true rfl), (Nat.le_of_ble_eq_true rfl)⟩ ⟨(Nat.le_of_ble_eq_true rfl), (Nat.le_of_ble_eq_true rfl)⟩ dL_stands_928) hS (fun _ h => h) rfl (fun w23 H locs hq hP hD hz hk hS => ?_)
    obtain ⟨hB, hsm⟩ := hq
    have hs0 := hs0.trans hsm
    clear hz hk
    refine lv_iconst (v := 0) S.1 S.2.1 dL_stands_931 (by decide) ?_
    refine x_aftR (st1 := [.int 1]) (x_St0 (As := [.ref (α 0), .int (a_leads v), .int (a_value v (6 : Int32)), .int 0]) (rest := []) S ms_L_isDue qw1377 (l_isDue l D A w23 α hB (a_leads v) (a_value v (6 : Int32)) (0 : Int32) hd) hK hP hD (hE.kept hS.2.1) rfl rfl hl.1 (Nat.le_of_ble_eq_true rfl) rfl rfl ⟨(Nat.le_of_ble_eq_true rfl), (Nat.le_of_ble_eq_true rfl)⟩ ⟨(Nat.le_of_ble_eq_true rfl), (Nat.le_of_ble_eq_true rfl)⟩ dL_stands_932) hS (fun _ h => h) rfl (fun locs hS => ?_)
    refine lv_if_eq (tgt := 975) S.1 S.2.1 dL_stands_935 (by decide) (fun z9 => absurd z9 (by decide)) (fun _ => ?_)
    exact st_t3 S hK hP hD hE hS hr hlk hB hs0 hR hN hEnd hl hT
  · refine lv_aload_n S.1 S.2.1 dL_stands_901 rfl (lv_at hl 0 rfl) ?_
    refine lv_aload_n S.1 S.2.1 dL_stands_902 rfl (lv_at hl 0 rfl) ?_
    refine lv_bipush (v := 8) S.1 S.2.1 dL_stands_903 (by decide) ?_
    refine x_aftQ (st1 := [.int (a_value v (8 : Int32)), .ref (α 0)]) (x_V0 (As := [.int 8]) (rest := [.ref (α 0)]) S mi_X11_value qw725 (k_value l D A w α hR hN (8 : Int32) hB) hK hP hD (hE.kept hS.2.1) (hB.recv hK hP) rfl rfl hl.1 (Nat.le_of_ble_eq_true rfl) rfl rfl ⟨(Nat.le_of_ble_eq_true rfl), (Nat.le_of_ble_eq_true rfl)⟩ ⟨(Nat.le_of_ble_eq_true rfl), (Nat.le_of_ble_eq_true rfl)⟩ dL_stands_905) hS (fun _ h => h) rfl (fun w21 H locs hq hP hD hz hk hS => ?_)
    obtain ⟨hB, hsm⟩ := hq
    have hs0 := hs0.trans hsm
    clear hz hk
    refine lv_iconst (v := 1) S.1 S.2.1 dL_stands_908 (by decide) ?_
    refine lv_icmp_ne (tgt := 919) S.1 S.2.1 dL_stands_909 (by decide) (fun _ => ?_) (fun z9 => absurd z9 (c))
    refine lv_aload_n S.1 S.2.1 dL_stands_919 rfl (lv_at hl 0 rfl) ?_
    refine lv_bipush (v := 10) S.1 S.2.1 dL_stands_920 (by decide) ?_
    refine x_aftQ (st1 := [.int (a_value v (10 : Int32)), .ref (α 0)]) (x_V0 (As := [.int 10]) (rest := [.ref (α 0)]) S mi_X11_value qw725 (k_value l D A w21 α hR hN (10 : Int32) hB) hK hP hD (hE.kept hS.2.1) (hB.recv hK hP) rfl rfl hl.1 (Nat.le_of_ble_eq_true rfl) rfl rfl ⟨(Nat.le_of_ble_eq_true rfl), (Nat.le_of_ble_eq_true rfl)⟩ ⟨(Nat.le_of_ble_eq_true rfl), (Nat.le_of_ble_eq_true rfl)⟩ dL_stands_922) hS (fun _ h => h) rfl (fun w22 H locs hq hP hD hz hk hS => ?_)
    obtain ⟨hB, hsm⟩ := hq
    have hs0 := hs0.trans hsm
    clear hz hk
    refine lv_aload_n S.1 S.2.1 dL_stands_925 rfl (lv_at hl 0 rfl) ?_
    refine lv_bipush (v := 6) S.1 S.2.1 dL_stands_926 (by decide) ?_
    refine x_aftQ (st1 := [.int (a_value v (6 : Int32)), .int (a_value v (10 : Int32)), .ref (α 0)]) (x_V0 (As := [.int 6]) (rest := [.int (a_value v (10 : Int32)), .ref (α 0)]) S mi_X11_value qw725 (k_value l D A w22 α hR hN (6 : Int32) hB) hK hP hD (hE.kept hS.2.1) (hB.recv hK hP) rfl rfl hl.1 (Nat.le_of_ble_eq_true rfl) rfl rfl ⟨(Nat.le_of_ble_eq_true rfl), (Nat.le_of_ble_eq_true rfl)⟩ ⟨(Nat.le_of_ble_eq_true rfl), (Nat.le_of_ble_eq_true rfl)⟩ dL_stands_928) hS (fun _ h => h) rfl (fun w23 H locs hq hP hD hz hk hS => ?_)
    obtain ⟨hB, hsm⟩ := hq
    have hs0 := hs0.trans hsm
    clear hz hk
    refine lv_iconst (v := 0) S.1 S.2.1 dL_stands_931 (by decide) ?_
    refine x_aftR (st1 := [.int 1]) (x_St0 (As := [.ref (α 0), .int (a_value v (10 : Int32)), .int (a_value v (6 : Int32)), .int 0]) (rest := []) S ms_L_isDue qw1377 (l_isDue l D A w23 α hB (a_value v (10 : Int32)) (a_value v (6 : Int32)) (0 : Int32) hd) hK hP hD (hE.kept hS.2.1) rfl rfl hl.1 (Nat.le_of_ble_eq_true rfl) rfl rfl ⟨(Nat.le_of_ble_eq_true rfl), (Nat.le_of_ble_eq_true rfl)⟩ ⟨(Nat.le_of_ble_eq_true rfl), (Nat.le_of_ble_eq_true rfl)⟩ dL_stands_932) hS (fun _ h => h) rfl (fun locs hS => ?_)
    refine lv_if_eq (tgt := 975) S.1 S.2.1 dL_stands_935 (by decide) (fun z9 => absurd z9 (by decide)) (fun _ => ?_)
    exact st_t3 S hK hP hD hE hS hr hlk hB hs0 hR hN hEnd hl hT
set_option maxHeartbeats 4000000 in
set_option maxRecDepth 100000 in
theorem st_tc (S : CallFix pg mi co cL_stands 12 s ar lw_all RL) (hK : va_K D vwCl (gTys D) s) (hP : va_P D vwCl w H) (hD : va_D A w) (hE : EV D A s s.heap) (hS : va_S A s.heap H locs) (hr : me.sig.returnType = some .boolean) (hlk : me.locks = false) (hB : OB D α w v) (hs0 : Same w0 w 0 234) (hR : RA N P B Q v) (hN : N ≤ 600) (hEnd : LEnd pg l en ({ frames := 9, cells := 0, slots := 0, locals := 230 } : Room) s mi ar below me co (stQ D A α w0 v) A Z 0 0) (hl : lv_has ls 12 [(0, .ref (α 0)), (1, .int (nI P)), (2, .int (sSea v P)), (3, .int (sStr v P)), (4, .int (sTrn v P)), (5, .int (sWrg v P)), (6, .int (sSum v P)), (7, .int 1), (8, .int (sOut v B)), (9, .int (sAbo v B)), (10, .int (sAll v))]) (hT : TF v P B) {r1 r2 : UInt64} (hc : Op.cmpValue (FP.dcmp r1 r2) .l = 0) : W pg l en ({ frames := 9, cells := 0, slots := 0, locals := 230 } : Room) s mi ar below me co H locs 0 0 Z (F0 mi 897 ls [.double r2, .double r1]) := by
  refine lv_dcmp S.1 S.2.1 dL_stands_897 ?_
  refine lv_if_ne (tgt := 975) S.1 S.2.1 dL_stands_898 (by decide) (fun z9 => absurd (hc) z9) (fun _ => ?_)
  exact st_t2 S hK hP hD hE hS hr hlk hB hs0 hR hN hEnd hl hT
set_option maxHeartbeats 4000000 in
set_option maxRecDepth 100000 in
theorem st_ts (S : CallFix pg mi co cL_stands 12 s ar lw_all RL) (hK : va_K D vwCl (gTys D) s) (hP : va_P D vwCl w H) (hD : va_D A w) (hE : EV D A s s.heap) (hS : va_S A s.heap H locs) (hr : me.sig.returnType = some .boolean) (hlk : me.locks = false) (hB : OB D α w v) (hs0 : Same w0 w 0 234) (hR : RA N P B Q v) (hN : N ≤ 600) (hEnd : LEnd pg l en ({ frames := 9, cells := 0, slots := 0, locals := 230 } : Room) s mi ar below me co (stQ D A α w0 v) A Z 0 0) (hl : lv_has ls 12 [(0, .ref (α 0)), (1, .int (nI P)), (2, .int (sSea v P)), (3, .int (sStr v P)), (4, .int (sTrn v P)), (5, .int (sWrg v P)), (6, .int (sSum v P)), (7, .int 1), (8, .int (sOut v B)), (9, .int (sAbo v B)), (10, .int (sAll v))]) (hT : TF v P B) {r1 : UInt64} (hal : alike64 r1 (a_seafaring v) = true) : W pg l en ({ frames := 9, cells := 0, slots := 0, locals := 230 } : Room) s mi ar below me co H locs 0 0 Z (F0 mi 873 ls [.double r1]) := by
  rcases (inferInstance : Decidable (a_value v 0 = 0)) with c | c
  · refine lv_aload_n S.1 S.2.1 dL_stands_873 rfl (lv_at hl 0 rfl) ?_
    refine lv_iconst (v := 0) S.1 S.2.1 dL_stands_874 (by decide) ?_
    refine x_aftQ (st1 := [.int (a_value v (0 : Int32)), .double r1]) (x_V0 (As := [.int 0]) (rest := [.double r1]) S mi_X11_value qw725 (k_value l D A w α hR hN (0 : Int32) hB) hK hP hD (hE.kept hS.2.1) (hB.recv hK hP) rfl rfl hl.1 (Nat.le_of_ble_eq_true rfl) rfl rfl ⟨(Nat.le_of_ble_eq_true rfl), (Nat.le_of_ble_eq_true rfl)⟩ ⟨(Nat.le_of_ble_eq_true rfl), (Nat.le_of_ble_eq_true rfl)⟩ dL_stands_875) hS (fun _ h => h) rfl (fun w21 H locs hq hP hD hz hk hS => ?_)
    obtain ⟨hB, hsm⟩ := hq
    have hs0 := hs0.trans hsm
    clear hz hk
    refine lv_if_ne (tgt := 885) S.1 S.2.1 dL_stands_878 (by decide) (fun _ => ?_) (fun z9 => absurd z9 (c))
    refine lv_iload S.1 S.2.1 dL_stands_885 (lv_at hl 6 rfl) ?_
    refine lv_i2d S.1 S.2.1 dL_stands_887 ?_
    refine lv_aload_n S.1 S.2.1 dL_stands_888 rfl (lv_at hl 0 rfl) ?_
    refine lv_iconst (v := 0) S.1 S.2.1 dL_stands_889 (by decide) ?_
    refine x_aftQ (st1 := [.int (a_value v (0 : Int32)), .double (FP.i2d (sSum v P)), .double r1]) (x_V0 (As := [.int 0]) (rest := [.double (FP.i2d (sSum v P)), .double r1]) S mi_X11_value qw725 (k_value l D A w21 α hR hN (0 : Int32) hB) hK hP hD (hE.kept hS.2.1) (hB.recv hK hP) rfl rfl hl.1 (Nat.le_of_ble_eq_true rfl) rfl rfl ⟨(Nat.le_of_ble_eq_true rfl), (Nat.le_of_ble_eq_true rfl)⟩ ⟨(Nat.le_of_ble_eq_true rfl), (Nat.le_of_ble_eq_true rfl)⟩ dL_stands_890) hS (fun _ h => h) rfl (fun w22 H locs hq hP hD hz hk hS => ?_)
    obtain ⟨hB, hsm⟩ := hq
    have hs0 := hs0.trans hsm
    clear hz hk
    refine lv_iload_n S.1 S.2.1 dL_stands_893 rfl (lv_at hl 1 rfl) ?_
    refine lv_imul S.1 S.2.1 dL_stands_894 ?_
    refine lv_i2d S.1 S.2.1 dL_stands_895 ?_
    refine W.base (lv_ddiv_any (Drawn.sameBut.refl s.drawn lw_cs) lw_bits S.1 S.2.1 dL_stands_896 (fun r2 d1 ha2 hd1 => ?_))
    exact st_tc (S.drawn d1) (va_K.moved (Vm.Alike.refl s.vm) hK) hP hD (EV.same (s := s) hE rfl) hS hr hlk hB hs0 hR hN (hEnd.drawn hd1) hl hT (hT.2.2.2.2.2.2.2.2.2.2.2.1 _ _ hal (.inr ⟨c, ha2⟩))
  · refine lv_aload_n S.1 S.2.1 dL_stands_873 rfl (lv_at hl 0 rfl) ?_
    refine lv_iconst (v := 0) S.1 S.2.1 dL_stands_874 (by decide) ?_
    refine x_aftQ (st1 := [.int (a_value v (0 : Int32)), .double r1]) (x_V0 (As := [.int 0]) (rest := [.double r1]) S mi_X11_value qw725 (k_value l D A w α hR hN (0 : Int32) hB) hK hP hD (hE.kept hS.2.1) (hB.recv hK hP) rfl rfl hl.1 (Nat.le_of_ble_eq_true rfl) rfl rfl ⟨(Nat.le_of_ble_eq_true rfl), (Nat.le_of_ble_eq_true rfl)⟩ ⟨(Nat.le_of_ble_eq_true rfl), (Nat.le_of_ble_eq_true rfl)⟩ dL_stands_875) hS (fun _ h => h) rfl (fun w21 H locs hq hP hD hz hk hS => ?_)
    obtain ⟨hB, hsm⟩ := hq
    have hs0 := hs0.trans hsm
    clear hz hk
    refine lv_if_ne (tgt := 885) S.1 S.2.1 dL_stands_878 (by decide) (fun z9 => absurd (c) z9) (fun _ => ?_)
    refine lv_dconst0 S.1 S.2.1 dL_stands_881 ?_
    refine lv_goto (tgt := 897) S.1 S.2.1 dL_stands_882 (by decide) ?_
    exact st_tc S hK hP hD hE hS hr hlk hB hs0 hR hN hEnd hl hT (hT.2.2.2.2.2.2.2.2.2.2.2.1 _ _ hal (.inl ⟨c, rfl⟩))
set_option maxHeartbeats 4000000 in
set_option maxRecDepth 100000 in
theorem st_t1 (S : CallFix pg mi co cL_stands 12 s ar lw_all RL) (hK : va_K D vwCl (gTys D) s) (hP : va_P D vwCl w H) (hD : va_D A w) (hE : EV D A s s.heap) (hS : va_S A s.heap H locs) (hr : me.sig.returnType = some .boolean) (hlk : me.locks = false) (hB : OB D α w v) (hs0 : Same w0 w 0 234) (hR : RA N P B Q v) (hN : N ≤ 600) (hEnd : LEnd pg l en ({ frames := 9, cells := 0, slots := 0, locals := 230 } : Room) s mi ar below me co (stQ D A α w0 v) A Z 0 0) (hl : lv_has ls 12 [(0, .ref (α 0)), (1, .int (nI P)), (2, .int (sSea v P)), (3, .int (sStr v P)), (4, .int (sTrn v P)), (5, .int (sWrg v P)), (6, .int (sSum v P)), (7, .int 1), (8, .int (sOut v B)), (9, .int (sAbo v B)), (10, .int (sAll v))]) (hT : TF v P B)  : W pg l en ({ frames := 9, cells := 0, slots := 0, locals := 230 } : Room) s mi ar below me co H locs 0 0 Z (F0 mi 706 ls []) := by
  obtain ⟨h1, h2, h3, h4, h5, h6, h7, h8, h9, h10, h11, -⟩ := id hT
  refine lv_aload_n S.1 S.2.1 dL_stands_706 rfl (lv_at hl 0 rfl) ?_
  refine lv_bipush (v := 6) S.1 S.2.1 dL_stands_707 (by decide) ?_
  refine x_aftR (st1 := [.int (a_number v (6 : Int32))]) (x_V0 (As := [.int 6]) (rest := []) S mi_X11_number qw1356 (k_number l D A w α (6 : Int32) hB) hK hP hD (hE.kept hS.2.1) (hB.recv hK hP) rfl rfl hl.1 (Nat.le_of_ble_eq_true rfl) rfl rfl ⟨(Nat.le_of_ble_eq_true rfl), (Nat.le_of_ble_eq_true rfl)⟩ ⟨(Nat.le_of_ble_eq_true rfl), (Nat.le_of_ble_eq_true rfl)⟩ dL_stands_709) hS (fun _ h => h) rfl (fun locs hS => ?_)
  refine lv_aload_n S.1 S.2.1 dL_stands_712 rfl (lv_at hl 0 rfl) ?_
  refine lv_iconst (v := 1) S.1 S.2.1 dL_stands_713 (by decide) ?_
  refine lv_aload_n S.1 S.2.1 dL_stands_714 rfl (lv_at hl 0 rfl) ?_
  refine lv_iconst (v := 1) S.1 S.2.1 dL_stands_715 (by decide) ?_
  refine x_aftQ (st1 := [.int (a_value v (1 : Int32)), .int 1, .ref (α 0), .int (a_number v (6 : Int32))]) (x_V0 (As := [.int 1]) (rest := [.int 1, .ref (α 0), .int (a_number v (6 : Int32))]) S mi_X11_value qw725 (k_value l D A w α hR hN (1 : Int32) hB) hK hP hD (hE.kept hS.2.1) (hB.recv hK hP) rfl rfl hl.1 (Nat.le_of_ble_eq_true rfl) rfl rfl ⟨(Nat.le_of_ble_eq_true rfl), (Nat.le_of_ble_eq_true rfl)⟩ ⟨(Nat.le_of_ble_eq_true rfl), (Nat.le_of_ble_eq_true rfl)⟩ dL_stands_716) hS (fun _ h => h) rfl (fun w1 H locs hq hP hD hz hk hS => ?_)
  obtain ⟨hB, hsm⟩ := hq
  have hs0 := hs0.trans hsm
  clear hz hk
  refine lv_iadd S.1 S.2.1 dL_stands_719 ?_
  refine x_aftR (st1 := [.int (a_number v ((1 : Int32) + (a_value v (1 : Int32)))), .int (a_number v (6 : Int32))]) (x_V0 (As := [.int ((1 : Int32) + (a_value v (1 : Int32)))]) (rest := [.int (a_number v (6 : Int32))]) S mi_X11_number qw1356 (k_number l D A w1 α ((1 : Int32) + (a_value v (1 : Int32))) hB) hK hP hD (hE.kept hS.2.1) (hB.recv hK hP) rfl rfl hl.1 (Nat.le_of_ble_eq_true rfl) rfl rfl ⟨(Nat.le_of_ble_eq_true rfl), (Nat.le_of_ble_eq_true rfl)⟩ ⟨(Nat.le_of_ble_eq_true rfl), (Nat.le_of_ble_eq_true rfl)⟩ dL_stands_720) hS (fun _ h => h) rfl (fun locs hS => ?_)
  refine lv_iload_n S.1 S.2.1 dL_stands_723 rfl (lv_at hl 1 rfl) ?_
  refine lv_imul S.1 S.2.1 dL_stands_724 ?_
  refine lv_bipush (v := 99) S.1 S.2.1 dL_stands_725 (by decide) ?_
  refine lv_iadd S.1 S.2.1 dL_stands_727 ?_
  refine lv_bipush (v := 100) S.1 S.2.1 dL_stands_728 (by decide) ?_
  refine lv_idiv S.1 S.2.1 dL_stands_730 (by decide) ?_
  refine lv_aload_n S.1 S.2.1 dL_stands_731 rfl (lv_at hl 0 rfl) ?_
  refine lv_iconst (v := 5) S.1 S.2.1 dL_stands_732 (by decide) ?_
  refine x_aftR (st1 := [.int (a_number v (5 : Int32)), .int ((((a_number v ((1 : Int32) + (a_value v (1 : Int32)))) * (nI P)) + 99) / (100 : Int32)), .int (a_number v (6 : Int32))]) (x_V0 (As := [.int 5]) (rest := [.int ((((a_number v ((1 : Int32) + (a_value v (1 : Int32)))) * (nI P)) + 99) / (100 : Int32)), .int (a_number v (6 : Int32))]) S mi_X11_number qw1356 (k_number l D A w1 α (5 : Int32) hB) hK hP hD (hE.kept hS.2.1) (hB.recv hK hP) rfl rfl hl.1 (Nat.le_of_ble_eq_true rfl) rfl rfl ⟨(Nat.le_of_ble_eq_true rfl), (Nat.le_of_ble_eq_true rfl)⟩ ⟨(Nat.le_of_ble_eq_true rfl), (Nat.le_of_ble_eq_true rfl)⟩ dL_stands_733) hS (fun _ h => h) rfl (fun locs hS => ?_)
  refine lv_iload S.1 S.2.1 dL_stands_736 (lv_at hl 8 rfl) ?_
  refine lv_imul S.1 S.2.1 dL_stands_738 ?_
  refine lv_isub S.1 S.2.1 dL_stands_739 ?_
  refine va_mmax S.1 S.2.1 (S.2.2.1.trans hl.1.symm) S.2.2.2.1 (S.2.2.2.2 _ qw1360) (S.2.2.2.2 _ qw45) (S.2.2.2.2 _ qw4) (S.2.2.2.2 _ qw46) (Nat.le_of_ble_eq_true rfl) (Nat.le_of_ble_eq_true rfl) (Nat.le_of_ble_eq_true rfl) (Nat.le_of_ble_eq_true rfl) dL_stands_740 ?_
  rw [show (if (a_number v (6 : Int32)) < (((((a_number v ((1 : Int32) + (a_value v (1 : Int32)))) * (nI P)) + 99) / (100 : Int32)) - ((a_number v (5 : Int32)) * (sOut v B))) then (((((a_number v ((1 : Int32) + (a_value v (1 : Int32)))) * (nI P)) + 99) / (100 : Int32)) - ((a_number v (5 : Int32)) * (sOut v B))) else (a_number v (6 : Int32))) = (mx (a_number v (6 : Int32)) (((((a_number v ((1 : Int32) + (a_value v (1 : Int32)))) * (nI P)) + 99) / (100 : Int32)) - ((a_number v (5 : Int32)) * (sOut v B)))) from rfl]
  rw [show (mx (a_number v (6 : Int32)) (((((a_number v ((1 : Int32) + (a_value v (1 : Int32)))) * (nI P)) + 99) / (100 : Int32)) - ((a_number v (5 : Int32)) * (sOut v B)))) = sNeed v (nI P) (sOut v B) from rfl]
  refine lv_istore (lv' := [(11, .int (sNeed v (nI P) (sOut v B))), (0, .ref (α 0)), (1, .int (nI P)), (2, .int (sSea v P)), (3, .int (sStr v P)), (4, .int (sTrn v P)), (5, .int (sWrg v P)), (6, .int (sSum v P)), (7, .int 1), (8, .int (sOut v B)), (9, .int (sAbo v B)), (10, .int (sAll v))]) S.1 S.2.1 dL_stands_743 hl (by decide) rfl (fun ls hl => ?_)
  refine lv_iload S.1 S.2.1 dL_stands_745 (lv_at hl 8 rfl) ?_
  refine lv_if_eq (tgt := 975) S.1 S.2.1 dL_stands_747 (by decide) (fun z9 => absurd z9 (by decide)) (fun _ => ?_)
  refine lv_iload_n S.1 S.2.1 dL_stands_750 rfl (lv_at hl 3 rfl) ?_
  refine lv_aload_n S.1 S.2.1 dL_stands_751 rfl (lv_at hl 1 rfl) ?_
  refine lv_iconst (v := 5) S.1 S.2.1 dL_stands_752 (by decide) ?_
  refine x_aftQ (st1 := [.int (a_value v (5 : Int32)), .int (sSea v P)]) (x_V0 (As := [.int 5]) (rest := [.int (sSea v P)]) S mi_X11_value qw725 (k_value l D A w1 α hR hN (5 : Int32) hB) hK hP hD (hE.kept hS.2.1) (hB.recv hK hP) rfl rfl hl.1 (Nat.le_of_ble_eq_true rfl) rfl rfl ⟨(Nat.le_of_ble_eq_true rfl), (Nat.le_of_ble_eq_true rfl)⟩ ⟨(Nat.le_of_ble_eq_true rfl), (Nat.le_of_ble_eq_true rfl)⟩ dL_stands_753) hS (fun _ h => h) rfl (fun w2 H locs hq hP hD hz hk hS => ?_)
  obtain ⟨hB, hsm⟩ := hq
  have hs0 := hs0.trans hsm
  clear hz hk
  refine lv_icmp_ne (tgt := 975) S.1 S.2.1 dL_stands_756 (by decide) (fun z9 => absurd (h1) z9) (fun _ => ?_)
  refine lv_iload_n S.1 S.2.1 dL_stands_759 rfl (lv_at hl 3 rfl) ?_
  refine lv_iload S.1 S.2.1 dL_stands_760 (lv_at hl 10 rfl) ?_
  refine lv_icmp_ne (tgt := 975) S.1 S.2.1 dL_stands_762 (by decide) (fun z9 => absurd (h2) z9) (fun _ => ?_)
  refine lv_iload S.1 S.2.1 dL_stands_765 (lv_at hl 9 rfl) ?_
  refine lv_aload_n S.1 S.2.1 dL_stands_767 rfl (lv_at hl 1 rfl) ?_
  refine lv_iconst (v := 4) S.1 S.2.1 dL_stands_768 (by decide) ?_
  refine x_aftQ (st1 := [.int (a_value v (4 : Int32)), .int (sOut v B)]) (x_V0 (As := [.int 4]) (rest := [.int (sOut v B)]) S mi_X11_value qw725 (k_value l D A w2 α hR hN (4 : Int32) hB) hK hP hD (hE.kept hS.2.1) (hB.recv hK hP) rfl rfl hl.1 (Nat.le_of_ble_eq_true rfl) rfl rfl ⟨(Nat.le_of_ble_eq_true rfl), (Nat.le_of_ble_eq_true rfl)⟩ ⟨(Nat.le_of_ble_eq_true rfl), (Nat.le_of_ble_eq_true rfl)⟩ dL_stands_769) hS (fun _ h => h) rfl (fun w3 H locs hq hP hD hz hk hS => ?_)
  obtain ⟨hB, hsm⟩ := hq
  have hs0 := hs0.trans hsm
  clear hz hk
  refine lv_icmp_ne (tgt := 975) S.1 S.2.1 dL_stands_772 (by decide) (fun z9 => absurd (h3) z9) (fun _ => ?_)
  refine lv_iload S.1 S.2.1 dL_stands_775 (lv_at hl 5 rfl) ?_
  refine lv_aload_n S.1 S.2.1 dL_stands_777 rfl (lv_at hl 1 rfl) ?_
  refine lv_bipush (v := 7) S.1 S.2.1 dL_stands_778 (by decide) ?_
  refine x_aftQ (st1 := [.int (a_value v (7 : Int32)), .int (sTrn v P)]) (x_V0 (As := [.int 7]) (rest := [.int (sTrn v P)]) S mi_X11_value qw725 (k_value l D A w3 α hR hN (7 : Int32) hB) hK hP hD (hE.kept hS.2.1) (hB.recv hK hP) rfl rfl hl.1 (Nat.le_of_ble_eq_true rfl) rfl rfl ⟨(Nat.le_of_ble_eq_true rfl), (Nat.le_of_ble_eq_true rfl)⟩ ⟨(Nat.le_of_ble_eq_true rfl), (Nat.le_of_ble_eq_true rfl)⟩ dL_stands_780) hS (fun _ h => h) rfl (fun w4 H locs hq hP hD hz hk hS => ?_)
  obtain ⟨hB, hsm⟩ := hq
  have hs0 := hs0.trans hsm
  clear hz hk
  refine lv_icmp_ne (tgt := 975) S.1 S.2.1 dL_stands_783 (by decide) (fun z9 => absurd (h4) z9) (fun _ => ?_)
  refine lv_iload S.1 S.2.1 dL_stands_786 (lv_at hl 11 rfl) ?_
  refine lv_iload S.1 S.2.1 dL_stands_788 (lv_at hl 5 rfl) ?_
  refine lv_icmp_ne (tgt := 975) S.1 S.2.1 dL_stands_790 (by decide) (fun z9 => absurd (h5) z9) (fun _ => ?_)
  refine lv_iload_n S.1 S.2.1 dL_stands_793 rfl (lv_at hl 4 rfl) ?_
  refine lv_aload_n S.1 S.2.1 dL_stands_794 rfl (lv_at hl 1 rfl) ?_
  refine lv_bipush (v := 11) S.1 S.2.1 dL_stands_795 (by decide) ?_
  refine x_aftQ (st1 := [.int (a_value v (11 : Int32)), .int (sStr v P)]) (x_V0 (As := [.int 11]) (rest := [.int (sStr v P)]) S mi_X11_value qw725 (k_value l D A w4 α hR hN (11 : Int32) hB) hK hP hD (hE.kept hS.2.1) (hB.recv hK hP) rfl rfl hl.1 (Nat.le_of_ble_eq_true rfl) rfl rfl ⟨(Nat.le_of_ble_eq_true rfl), (Nat.le_of_ble_eq_true rfl)⟩ ⟨(Nat.le_of_ble_eq_true rfl), (Nat.le_of_ble_eq_true rfl)⟩ dL_stands_797) hS (fun _ h => h) rfl (fun w5 H locs hq hP hD hz hk hS => ?_)
  obtain ⟨hB, hsm⟩ := hq
  have hs0 := hs0.trans hsm
  clear hz hk
  refine lv_icmp_ne (tgt := 975) S.1 S.2.1 dL_stands_800 (by decide) (fun z9 => absurd (h6) z9) (fun _ => ?_)
  refine lv_iload S.1 S.2.1 dL_stands_803 (lv_at hl 6 rfl) ?_
  refine lv_aload_n S.1 S.2.1 dL_stands_805 rfl (lv_at hl 1 rfl) ?_
  refine x_aftR (st1 := [.int (a_wrongOnes v), .int (sWrg v P)]) (x_V0 (As := []) (rest := [.int (sWrg v P)]) S mi_X11_wrongOnes qw1361 (k_wrongOnes l D A w5 α  hB) hK hP hD (hE.kept hS.2.1) (hB.recv hK hP) rfl rfl hl.1 (Nat.le_of_ble_eq_true rfl) rfl rfl ⟨(Nat.le_of_ble_eq_true rfl), (Nat.le_of_ble_eq_true rfl)⟩ ⟨(Nat.le_of_ble_eq_true rfl), (Nat.le_of_ble_eq_true rfl)⟩ dL_stands_806) hS (fun _ h => h) rfl (fun locs hS => ?_)
  refine lv_icmp_ne (tgt := 975) S.1 S.2.1 dL_stands_809 (by decide) (fun z9 => absurd (h7) z9) (fun _ => ?_)
  refine lv_iload S.1 S.2.1 dL_stands_812 (lv_at hl 6 rfl) ?_
  refine x_aftR (st1 := [.int (f_J6_bitCount_0f7a4 (sWrg v P))]) (x_St0 (As := [.int (sWrg v P)]) (rest := []) S ms_J6_bitCount_0f7a4 qw1318 (c_J6_bitCount_0f7a4 l D A w5 α (sWrg v P)) hK hP hD (hE.kept hS.2.1) rfl rfl hl.1 (Nat.le_of_ble_eq_true rfl) rfl rfl ⟨(Nat.le_of_ble_eq_true rfl), (Nat.le_of_ble_eq_true rfl)⟩ ⟨(Nat.le_of_ble_eq_true rfl), (Nat.le_of_ble_eq_true rfl)⟩ dL_stands_814) hS (fun _ h => h) rfl (fun locs hS => ?_)
  refine lv_aload_n S.1 S.2.1 dL_stands_817 rfl (lv_at hl 1 rfl) ?_
  refine lv_bipush (v := 16) S.1 S.2.1 dL_stands_818 (by decide) ?_
  refine x_aftQ (st1 := [.int (a_value v (16 : Int32)), .int (f_J6_bitCount_0f7a4 (sWrg v P))]) (x_V0 (As := [.int 16]) (rest := [.int (f_J6_bitCount_0f7a4 (sWrg v P))]) S mi_X11_value qw725 (k_value l D A w5 α hR hN (16 : Int32) hB) hK hP hD (hE.kept hS.2.1) (hB.recv hK hP) rfl rfl hl.1 (Nat.le_of_ble_eq_true rfl) rfl rfl ⟨(Nat.le_of_ble_eq_true rfl), (Nat.le_of_ble_eq_true rfl)⟩ ⟨(Nat.le_of_ble_eq_true rfl), (Nat.le_of_ble_eq_true rfl)⟩ dL_stands_820) hS (fun _ h => h) rfl (fun w6 H locs hq hP hD hz hk hS => ?_)
  obtain ⟨hB, hsm⟩ := hq
  have hs0 := hs0.trans hsm
  clear hz hk
  refine lv_icmp_ne (tgt := 975) S.1 S.2.1 dL_stands_823 (by decide) (fun z9 => absurd (h8) z9) (fun _ => ?_)
  refine lv_aload_n S.1 S.2.1 dL_stands_826 rfl (lv_at hl 1 rfl) ?_
  refine lv_bipush (v := 15) S.1 S.2.1 dL_stands_827 (by decide) ?_
  refine x_aftQ (st1 := [.int (a_value v (15 : Int32))]) (x_V0 (As := [.int 15]) (rest := []) S mi_X11_value qw725 (k_value l D A w6 α hR hN (15 : Int32) hB) hK hP hD (hE.kept hS.2.1) (hB.recv hK hP) rfl rfl hl.1 (Nat.le_of_ble_eq_true rfl) rfl rfl ⟨(Nat.le_of_ble_eq_true rfl), (Nat.le_of_ble_eq_true rfl)⟩ ⟨(Nat.le_of_ble_eq_true rfl), (Nat.le_of_ble_eq_true rfl)⟩ dL_stands_829) hS (fun _ h => h) rfl (fun w7 H locs hq hP hD hz hk hS => ?_)
  obtain ⟨hB, hsm⟩ := hq
  have hs0 := hs0.trans hsm
  clear hz hk
  refine lv_iload_n S.1 S.2.1 dL_stands_832 rfl (lv_at hl 2 rfl) ?_
  refine lv_iload_n S.1 S.2.1 dL_stands_833 rfl (lv_at hl 3 rfl) ?_
  refine lv_isub S.1 S.2.1 dL_stands_834 ?_
  refine lv_icmp_ne (tgt := 975) S.1 S.2.1 dL_stands_835 (by decide) (fun z9 => absurd (h9) z9) (fun _ => ?_)
  refine lv_aload_n S.1 S.2.1 dL_stands_838 rfl (lv_at hl 1 rfl) ?_
  refine lv_iconst (v := 0) S.1 S.2.1 dL_stands_839 (by decide) ?_
  refine x_aftR (st1 := [.int (a_needIn v (0 : Int32))]) (x_V0 (As := [.int 0]) (rest := []) S mi_X11_needIn qw1334 (k_needIn l D A w7 α (0 : Int32) hB) hK hP hD (hE.kept hS.2.1) (hB.recv hK hP) rfl rfl hl.1 (Nat.le_of_ble_eq_true rfl) rfl rfl ⟨(Nat.le_of_ble_eq_true rfl), (Nat.le_of_ble_eq_true rfl)⟩ ⟨(Nat.le_of_ble_eq_true rfl), (Nat.le_of_ble_eq_true rfl)⟩ dL_stands_840) hS (fun _ h => h) rfl (fun locs hS => ?_)
  refine lv_iload S.1 S.2.1 dL_stands_843 (lv_at hl 0 rfl) ?_
  refine lv_icmp_ne (tgt := 975) S.1 S.2.1 dL_stands_845 (by decide) (fun z9 => absurd (h10) z9) (fun _ => ?_)
  refine lv_aload_n S.1 S.2.1 dL_stands_848 rfl (lv_at hl 1 rfl) ?_
  refine lv_bipush (v := 8) S.1 S.2.1 dL_stands_849 (by decide) ?_
  refine x_aftQ (st1 := [.int (a_value v (8 : Int32))]) (x_V0 (As := [.int 8]) (rest := []) S mi_X11_value qw725 (k_value l D A w7 α hR hN (8 : Int32) hB) hK hP hD (hE.kept hS.2.1) (hB.recv hK hP) rfl rfl hl.1 (Nat.le_of_ble_eq_true rfl) rfl rfl ⟨(Nat.le_of_ble_eq_true rfl), (Nat.le_of_ble_eq_true rfl)⟩ ⟨(Nat.le_of_ble_eq_true rfl), (Nat.le_of_ble_eq_true rfl)⟩ dL_stands_851) hS (fun _ h => h) rfl (fun w8 H locs hq hP hD hz hk hS => ?_)
  obtain ⟨hB, hsm⟩ := hq
  have hs0 := hs0.trans hsm
  clear hz hk
  refine lv_iconst (v := 1) S.1 S.2.1 dL_stands_854 (by decide) ?_
  rcases h11 with c | ⟨c, h11⟩
  · refine lv_icmp_gt (tgt := 869) S.1 S.2.1 dL_stands_855 (by decide) (fun _ => ?_) (fun z9 => absurd (Int32.not_le.mp c) z9)
    refine lv_aload_n S.1 S.2.1 dL_stands_869 rfl (lv_at hl 1 rfl) ?_
    refine x_aftDb (rest := []) (g_VD0 (As := []) (rest := []) S mi_X11_seafaring qw1365 (k_seafaring l D A w8 α  hB) hK hP hD hE hS (hB.recv hK hP) rfl rfl hl.1 (Nat.le_of_ble_eq_true rfl) rfl rfl ⟨(Nat.le_of_ble_eq_true rfl), (Nat.le_of_ble_eq_true rfl)⟩ ⟨(Nat.le_of_ble_eq_true rfl), (Nat.le_of_ble_eq_true rfl)⟩ dL_stands_870) hS (fun r1 locs d1 hal hS hd1 => ?_)
    exact st_ts (S.drawn d1) (va_K.moved (Vm.Alike.refl s.vm) hK) hP hD (EV.same (s := s) hE rfl) hS hr hlk hB hs0 hR hN (hEnd.drawn hd1) (lv_sub hl [1, 2, 3, 4, 5, 6, 7, 8, 9, 10, 11] rfl) hT hal
  · refine lv_icmp_gt (tgt := 869) S.1 S.2.1 dL_stands_855 (by decide) (fun z9 => absurd c (Int32.not_le.mpr z9)) (fun _ => ?_)
    refine lv_aload_n S.1 S.2.1 dL_stands_858 rfl (lv_at hl 1 rfl) ?_
    refine lv_bipush (v := 6) S.1 S.2.1 dL_stands_859 (by decide) ?_
    refine x_aftQ (st1 := [.int (a_value v (6 : Int32))]) (x_V0 (As := [.int 6]) (rest := []) S mi_X11_value qw725 (k_value l D A w8 α hR hN (6 : Int32) hB) hK hP hD (hE.kept hS.2.1) (hB.recv hK hP) rfl rfl hl.1 (Nat.le_of_ble_eq_true rfl) rfl rfl ⟨(Nat.le_of_ble_eq_true rfl), (Nat.le_of_ble_eq_true rfl)⟩ ⟨(Nat.le_of_ble_eq_true rfl), (Nat.le_of_ble_eq_true rfl)⟩ dL_stands_861) hS (fun _ h => h) rfl (fun w9 H locs hq hP hD hz hk hS => ?_)
    obtain ⟨hB, hsm⟩ := hq
    have hs0 := hs0.trans hsm
    clear hz hk
    refine lv_iload S.1 S.2.1 dL_stands_864 (lv_at hl 0 rfl) ?_
    refine lv_icmp_ne (tgt := 975) S.1 S.2.1 dL_stands_866 (by decide) (fun z9 => absurd (h11) z9) (fun _ => ?_)
    refine lv_aload_n S.1 S.2.1 dL_stands_869 rfl (lv_at hl 1 rfl) ?_
    refine x_aftDb (rest := []) (g_VD0 (As := []) (rest := []) S mi_X11_seafaring qw1365 (k_seafaring l D A w9 α  hB) hK hP hD hE hS (hB.recv hK hP) rfl rfl hl.1 (Nat.le_of_ble_eq_true rfl) rfl rfl ⟨(Nat.le_of_ble_eq_true rfl), (Nat.le_of_ble_eq_true rfl)⟩ ⟨(Nat.le_of_ble_eq_true rfl), (Nat.le_of_ble_eq_true rfl)⟩ dL_stands_870) hS (fun r1 locs d1 hal hS hd1 => ?_)
    exact st_ts (S.drawn d1) (va_K.moved (Vm.Alike.refl s.vm) hK) hP hD (EV.same (s := s) hE rfl) hS hr hlk hB hs0 hR hN (hEnd.drawn hd1) (lv_sub hl [1, 2, 3, 4, 5, 6, 7, 8, 9, 10, 11] rfl) hT hal
end ST
