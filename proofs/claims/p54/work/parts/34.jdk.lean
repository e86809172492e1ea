/-! the JDK's own: a text's length and its characters -/
section JS
variable {p : Program} {l : Launch} {e : Env} {R : Room} {s : State} {m : MethodId} {args : Array Value} {below : List Frame} {meth : Method} {c : Code} {H : Heap} {locs : List Loc} {cells slots : Nat}
variable {cc : ByteArray} {nL pc : Nat} {ls : Array Slot} {D : va_G} {A : Nat → Prop} {ws : va_W} {own : String} {V : Option Value}
theorem g_vretR (S : CallFix p m c cc nL s args lw_all own) (hr : meth.sig.returnType = none) (hlk : meth.locks = false) (hS : va_S A s.heap s.heap locs) (hV : V = none) (hdg : decode cc pc = .ok (.return_, 1)) :
    W p l e R s m args below meth c s.heap locs cells slots (MQ below (gR V) args s cells slots A) (F0 m pc ls []) := by
  subst hV
  exact W.vret S.1 S.2.1 hr (fun t ht _ => ⟨rfl, ht⟩) hS.2.2 hdg hlk
theorem g_nretR (S : CallFix p m c cc nL s args lw_all own) {ty : FieldType} (hr : meth.sig.returnType = some ty) (hlk : meth.locks = false) (hS : va_S A s.heap s.heap locs) {v : Int32} (hn : narrow ty (.int v) = .int v) (hV : V = some (.int v)) (hdg : decode cc pc = .ok (.ireturn, 1)) :
    W p l e R s m args below meth c s.heap locs cells slots (MQ below (gR V) args s cells slots A) (F0 m pc ls [.int v]) := by
  subst hV
  exact W.zret S.1 S.2.1 hr hn (fun t ht _ => ⟨rfl, ht⟩) hS.2.2 hdg hlk
theorem g_fretR (S : CallFix p m c cc nL s args lw_all own) (hr : meth.sig.returnType = some .float) (hlk : meth.locks = false) (hS : va_S A s.heap s.heap locs) {v : UInt32} (hV : V = some (.float v)) (hdg : decode cc pc = .ok (.freturn, 1)) :
    W p l e R s m args below meth c s.heap locs cells slots (MQ below (gR V) args s cells slots A) (F0 m pc ls [.float v]) := by
  subst hV
  exact W.fret S.1 S.2.1 hr (fun t ht _ => ⟨rfl, ht⟩) hS.2.2 hdg hlk
theorem g_dretR (S : CallFix p m c cc nL s args lw_all own) (hr : meth.sig.returnType = some .double) (hlk : meth.locks = false) (hS : va_S A s.heap s.heap locs) {v : UInt64} (hV : V = some (.double v)) (hdg : decode cc pc = .ok (.dreturn, 1)) :
    W p l e R s m args below meth c s.heap locs cells slots (MQ below (gR V) args s cells slots A) (F0 m pc ls [.double v]) := by
  subst hV
  exact W.dret S.1 S.2.1 hr (fun t ht _ => ⟨rfl, ht⟩) hS.2.2 hdg hlk
variable {index n : Nat} {st0 As rest : List Value} {bytes : ByteArray} {maxL mc ms : Nat} {ret : Option FieldType} {rm : Room} {y : MethodName} {Qc : Array Value → State → Outcome → State → Prop}
/-- virtual, of a text -/
theorem g_Vs (S : CallFix p m c cc nL s args lw_all own) (I : MI "java/lang/String" y bytes maxL ret n) (L : Cond.methodLink own index y ∈ lw_all) {i : Nat}
    (hM : Met l y (ws_ y bytes maxL ret) rm (gPre D A (.ref (D.2 200 i) :: As) ws) Qc mc ms A) (hK : va_K D vwCl (gTys D) s) (hP : va_P D vwCl ws H) (hD : va_D A ws) (hE : EV D A s s.heap) (hS : va_S A s.heap H locs)
    (hi : i < strLen.length) (hst : st0 = As.reverse ++ .ref (D.2 200 i) :: rest) (hn : As.length = n) (hls : ls.size = nL) (hW : (rest.map fun v => v.category).sum ≤ 8)
    (hrc : rm.cells = mc) (hrs : rm.slots = ms) (hR : rm.frames + 1 ≤ R.frames ∧ 8 + (maxL + 11) + rm.locals ≤ R.locals) (hf : cells + mc ≤ R.cells ∧ slots + ms ≤ R.slots) (hdg : decode cc pc = .ok (.invokevirtual index, 3)) :
    va_Run p l e R s m args below meth c H locs cells slots mc ms (F0 m pc ls st0) rest (Qc (Value.ref (D.2 200 i) :: As).toArray) A := by
  obtain ⟨i1, i2, i3, i4, i5⟩ := I
  have hts := S.2.2.2.2
  refine va_runV (As := As) (rest := rest) (index := index) (n := n) S hM ⟨callB_of n hts (ws_good i4) rfl hrc hrs (by rw [i5.1]; exact hts _ i3) (hts _ L) i5.2 hR, hts _ i1, hts _ i2⟩ ⟨gPre.blind, vk_recv hE.2.2.2.1 hi hS, g_pre hK hP hD hE hS⟩ rfl hn hls hst (lv_room hW) hdg hf
end JS
theorem shr0 (x : Int32) : x >>> ((0 : Int32) &&& 31) = x := by
  show x >>> (0 : Int32) = x
  exact Int32.shiftRight_zero
/-- a text's length, its characters -/
def sLen (i : Nat) : Int32 := nI (strLen.getD i 0)
def sCh (i : Nat) (j : Int32) : Int32 := (strByt.getD i []).getD j.toNatClampNeg 0
theorem str_all : ∀ q ∈ strByt, ∀ b ∈ q, (((b &&& 255).toUInt32 % 65536).toInt32 = b ∧ narrow .char (.int b) = .int b) := by decide +kernel
theorem str_ok (i : Nat) (j : Int32) : ((((sCh i j) &&& 255).toUInt32 % 65536).toInt32 = sCh i j ∧ narrow .char (.int (sCh i j)) = .int (sCh i j)) := by
  have key : ∀ (q : List Int32) (k : Nat), (∀ b ∈ q, (((b &&& 255).toUInt32 % 65536).toInt32 = b ∧ narrow .char (.int b) = .int b)) → ((((q.getD k 0) &&& 255).toUInt32 % 65536).toInt32 = q.getD k 0 ∧ narrow .char (.int (q.getD k 0)) = .int (q.getD k 0)) := by
    intro q k hq
    rw [List.getD_eq_getElem?_getD]
    cases h : q[k]? with
    | none => exact ⟨by decide, by decide⟩
    | some x => exact hq x (List.mem_of_getElem? h)
  refine key _ _ ?_
  rw [List.getD_eq_getElem?_getD]
  cases h : strByt[i]? with
  | none => intro b hb; cases hb
  | some q => exact str_all q (List.mem_of_getElem? h)
set_option maxHeartbeats 4000000 in
theorem c_J0_coder_7d493 (l : Launch) (D : va_G) (A : Nat → Prop) (w : va_W) (i : Nat) (hi : i < strLen.length) : Met l yJ0_coder_7d493 (ws_ yJ0_coder_7d493 cJ0_coder_7d493 1 (some .byte)) ({ frames := 0, cells := 0, slots := 0, locals := 0 }) (gPre D A [.ref (D.2 200 i)] w) (gR (some (.int 0))) 0 0 A := by
  refine g_met [(0, .ref (D.2 200 i))] (by decide +kernel) (Nat.le_of_ble_eq_true rfl) rfl (fun pg en s mi ar below me co ls S hK hP hD hE hS hr hlk hnm hl => ?_)
  refine va_gets S.1 S.2.1 hE.2.2.2.2.1 hS S.2.2.2.1 (S.2.2.2.2 _ qw548) (fun _ h => h) dJ0_coder_7d493_0 ?_
  refine lv_if_eq (tgt := 13) S.1 S.2.1 dJ0_coder_7d493_3 (by decide) (fun q => absurd q (by decide)) (fun _ => ?_)
  refine lv_aload_n S.1 S.2.1 dJ0_coder_7d493_6 rfl (lv_at hl 0 rfl) ?_
  refine vk_getf S.1 S.2.1 (hE.2.2.2.1.1 i hi).2.1 hS S.2.2.2.1 (S.2.2.2.2 _ qw1078) (fun _ h => h) dJ0_coder_7d493_7 ?_
  refine lv_goto (tgt := 14) S.1 S.2.1 dJ0_coder_7d493_10 (by decide) ?_
  exact g_nretR S hr hlk hS (by decide) rfl dJ0_coder_7d493_14
set_option maxHeartbeats 4000000 in
theorem c_J0_isLatin1_aae02 (l : Launch) (D : va_G) (A : Nat → Prop) (w : va_W) (i : Nat) (hi : i < strLen.length) : Met l yJ0_isLatin1_aae02 (ws_ yJ0_isLatin1_aae02 cJ0_isLatin1_aae02 1 (some .boolean)) ({ frames := 0, cells := 0, slots := 0, locals := 0 }) (gPre D A [.ref (D.2 200 i)] w) (gR (some (.int 1))) 0 0 A := by
  refine g_met [(0, .ref (D.2 200 i))] (by decide +kernel) (Nat.le_of_ble_eq_true rfl) rfl (fun pg en s mi ar below me co ls S hK hP hD hE hS hr hlk hnm hl => ?_)
  refine va_gets S.1 S.2.1 hE.2.2.2.2.1 hS S.2.2.2.1 (S.2.2.2.2 _ qw548) (fun _ h => h) dJ0_isLatin1_aae02_0 ?_
  refine lv_if_eq (tgt := 17) S.1 S.2.1 dJ0_isLatin1_aae02_3 (by decide) (fun q => absurd q (by decide)) (fun _ => ?_)
  refine lv_aload_n S.1 S.2.1 dJ0_isLatin1_aae02_6 rfl (lv_at hl 0 rfl) ?_
  refine vk_getf S.1 S.2.1 (hE.2.2.2.1.1 i hi).2.1 hS S.2.2.2.1 (S.2.2.2.2 _ qw1078) (fun _ h => h) dJ0_isLatin1_aae02_7 ?_
  refine lv_if_ne (tgt := 17) S.1 S.2.1 dJ0_isLatin1_aae02_10 (by decide) (fun q => absurd rfl q) (fun _ => ?_)
  refine lv_iconst (v := 1) S.1 S.2.1 dJ0_isLatin1_aae02_13 (by decide) ?_
  refine lv_goto (tgt := 18) S.1 S.2.1 dJ0_isLatin1_aae02_14 (by decide) ?_
  exact g_nretR S hr hlk hS (by decide) rfl dJ0_isLatin1_aae02_18
set_option maxHeartbeats 4000000 in
theorem c_J0_length_8abf5 (l : Launch) (D : va_G) (A : Nat → Prop) (w : va_W) (i : Nat) (hi : i < strLen.length) : Met l yJ0_length_8abf5 (ws_ yJ0_length_8abf5 cJ0_length_8abf5 1 (some .int)) ({ frames := 1, cells := 0, slots := 0, locals := 20 }) (gPre D A [.ref (D.2 200 i)] w) (gR (some (.int (sLen i)))) 0 0 A := by
  refine g_met [(0, .ref (D.2 200 i))] (by decide +kernel) (Nat.le_of_ble_eq_true rfl) rfl (fun pg en s mi ar below me co ls S hK hP hD hE hS hr hlk hnm hl => ?_)
  refine lv_aload_n S.1 S.2.1 dJ0_length_8abf5_0 rfl (lv_at hl 0 rfl) ?_
  refine vk_getf S.1 S.2.1 (hE.2.2.2.1.1 i hi).2.2.1 hS S.2.2.2.1 (S.2.2.2.2 _ qw1077) (fun _ h => h) dJ0_length_8abf5_1 ?_
  refine va_tlen S.1 S.2.1 (hE.2.2.2.1.1 i hi).2.2.2 hS (v := sLen i) rfl dJ0_length_8abf5_4 ?_
  refine lv_aload_n S.1 S.2.1 dJ0_length_8abf5_5 rfl (lv_at hl 0 rfl) ?_
  refine g_aftR0 (st1 := [.int 0, .int (sLen i)]) (g_Vs (As := []) (rest := [.int (sLen i)]) S mi_J0_coder_7d493 qw544 (c_J0_coder_7d493 l D A w i hi) hK hP hD hE hS hi rfl rfl hl.1 (Nat.le_of_ble_eq_true rfl) rfl rfl ⟨Nat.le_of_ble_eq_true rfl, Nat.le_of_ble_eq_true rfl⟩ ⟨Nat.le_of_ble_eq_true rfl, Nat.le_of_ble_eq_true rfl⟩ dJ0_length_8abf5_6) hS rfl (fun locs hS => ?_)
  refine lv_ishr S.1 S.2.1 dJ0_length_8abf5_9 ?_
  rw [shr0]
  exact g_iretR S hr hlk hS rfl dJ0_length_8abf5_10
set_option maxHeartbeats 4000000 in
theorem c_J3_checkIndex_8e157 (l : Launch) (D : va_G) (A : Nat → Prop) (w : va_W) (i n : Int32) (v : Value) (hv : v.category = 1) (h0 : ¬ i < 0) (h1 : i < n) : Met l yJ3_checkIndex_8e157 (ws_ yJ3_checkIndex_8e157 cJ3_checkIndex_8e157 3 (some .int)) ({ frames := 0, cells := 0, slots := 0, locals := 0 }) (gPre D A [.int i, .int n, v] w) (gR (some (.int i))) 0 0 A := by
  have hsl : (lg_sl [.int i, .int n, v]).length ≤ 3 := by
    cases v <;> first | exact Nat.le_of_ble_eq_true rfl | exact absurd hv (show ¬ (2 = 1) by decide)
  have hlv : lv_args 0 [.int i, .int n, v] = [(0, .int i), (1, .int n), (2, v)] := by
    cases v <;> first | rfl | exact absurd hv (show ¬ (2 = 1) by decide)
  refine g_met [(0, .int i), (1, .int n), (2, v)] (by decide +kernel) hsl hlv (fun pg en s mi ar below me co ls S hK hP hD hE hS hr hlk hnm hl => ?_)
  refine lv_iload_n S.1 S.2.1 dJ3_checkIndex_8e157_0 rfl (lv_at hl 0 rfl) ?_
  refine lv_if_lt (tgt := 9) S.1 S.2.1 dJ3_checkIndex_8e157_1 (by decide) (fun q => absurd q h0) (fun _ => ?_)
  refine lv_iload_n S.1 S.2.1 dJ3_checkIndex_8e157_4 rfl (lv_at hl 0 rfl) ?_
  refine lv_iload_n S.1 S.2.1 dJ3_checkIndex_8e157_5 rfl (lv_at hl 1 rfl) ?_
  refine lv_icmp_lt (tgt := 16) S.1 S.2.1 dJ3_checkIndex_8e157_6 (by decide) (fun _ => ?_) (fun q => absurd h1 q)
  refine lv_iload_n S.1 S.2.1 dJ3_checkIndex_8e157_16 rfl (lv_at hl 0 rfl) ?_
  exact g_iretR S hr hlk hS rfl dJ3_checkIndex_8e157_17
set_option maxHeartbeats 4000000 in
theorem c_J0_checkIndex_df160 (l : Launch) (D : va_G) (A : Nat → Prop) (w : va_W) (i n : Int32) (h0 : ¬ i < 0) (h1 : i < n) : Met l yJ0_checkIndex_df160 (ws_ yJ0_checkIndex_df160 cJ0_checkIndex_df160 2 none) ({ frames := 1, cells := 0, slots := 0, locals := 22 }) (gPre D A [.int i, .int n] w) (gR none) 0 0 A := by
  refine g_met [(0, .int i), (1, .int n)] (by decide +kernel) (Nat.le_of_ble_eq_true rfl) rfl (fun pg en s mi ar below me co ls S hK hP hD hE hS hr hlk hnm hl => ?_)
  refine lv_iload_n S.1 S.2.1 dJ0_checkIndex_df160_0 rfl (lv_at hl 0 rfl) ?_
  refine lv_iload_n S.1 S.2.1 dJ0_checkIndex_df160_1 rfl (lv_at hl 1 rfl) ?_
  have go : ∀ v : Value, v.category = 1 → va_Z "jdk/internal/util/Preconditions" "SIOOBE_FORMATTER" "Ljava/util/function/BiFunction;" v A s s.heap → W pg l en ({ frames := 1, cells := 0, slots := 0, locals := 22 }) s mi ar below me co s.heap [] 0 0 (MQ below (gR none) ar s 0 0 A) (F0 mi 2 ls [.int n, .int i]) := by
    intro v hv hz
    refine va_gets S.1 S.2.1 hz hS S.2.2.2.1 (S.2.2.2.2 _ qw564) (fun _ h => h) dJ0_checkIndex_df160_2 ?_
    refine g_aftR0 (st1 := [.int i]) (g_St (As := [.int i, .int n, v]) (rest := []) S ms_J3_checkIndex_8e157 qw566 (c_J3_checkIndex_8e157 l D A w i n v hv h0 h1) hK hP hD hE hS rfl rfl hl.1 (Nat.le_of_ble_eq_true rfl) rfl rfl ⟨Nat.le_of_ble_eq_true rfl, Nat.le_of_ble_eq_true rfl⟩ ⟨Nat.le_of_ble_eq_true rfl, Nat.le_of_ble_eq_true rfl⟩ dJ0_checkIndex_df160_5) hS rfl (fun locs hS => ?_)
    refine lv_pop S.1 S.2.1 dJ0_checkIndex_df160_8 rfl ?_
    exact g_vretR S hr hlk hS rfl dJ0_checkIndex_df160_9
  rcases hE.2.2.2.2.2 with hz | ⟨t, hz⟩
  · exact go _ rfl hz
  · exact go _ rfl hz
set_option maxHeartbeats 4000000 in
theorem c_J1_charAt_3b067 (l : Launch) (D : va_G) (A : Nat → Prop) (w : va_W) (i : Nat) (hi : i < strLen.length) (j : Int32) (hj : vp_in j (strLen.getD i 0)) : Met l yJ1_charAt_3b067 (ws_ yJ1_charAt_3b067 cJ1_charAt_3b067 2 (some .char)) ({ frames := 2, cells := 0, slots := 0, locals := 43 }) (gPre D A [.ref (D.2 201 i), .int j] w) (gR (some (.int (sCh i j)))) 0 0 A := by
  refine g_met [(0, .ref (D.2 201 i)), (1, .int j)] (by decide +kernel) (Nat.le_of_ble_eq_true rfl) rfl (fun pg en s mi ar below me co ls S hK hP hD hE hS hr hlk hnm hl => ?_)
  refine lv_iload_n S.1 S.2.1 dJ1_charAt_3b067_0 rfl (lv_at hl 1 rfl) ?_
  refine lv_aload_n S.1 S.2.1 dJ1_charAt_3b067_1 rfl (lv_at hl 0 rfl) ?_
  refine va_tlen S.1 S.2.1 (hE.2.2.2.1.1 i hi).2.2.2 hS (v := sLen i) rfl dJ1_charAt_3b067_2 ?_
  have h0 : ¬ j < 0 := fun q => hj (Or.inl q)
  have h1 : j < sLen i := by
    have hs : ∀ k, strLen.getD k 0 < 100 := by
      intro k
      rw [List.getD_eq_getElem?_getD]
      cases h : strLen[k]? with
      | none => decide
      | some x => exact (show ∀ q ∈ strLen, q < 100 by decide) x (List.mem_of_getElem? h)
    obtain ⟨e, hlt⟩ := vin_nI hj
    have := hs i
    rw [e]
    exact nI_lt hlt (by omega)
  refine g_aftR0 (st1 := []) (g_St (As := [.int j, .int (sLen i)]) (rest := []) S ms_J0_checkIndex_df160 qw561 (c_J0_checkIndex_df160 l D A w j (sLen i) h0 h1) hK hP hD hE hS rfl rfl hl.1 (Nat.le_of_ble_eq_true rfl) rfl rfl ⟨Nat.le_of_ble_eq_true rfl, Nat.le_of_ble_eq_true rfl⟩ ⟨Nat.le_of_ble_eq_true rfl, Nat.le_of_ble_eq_true rfl⟩ dJ1_charAt_3b067_3) hS rfl (fun locs hS => ?_)
  refine lv_aload_n S.1 S.2.1 dJ1_charAt_3b067_6 rfl (lv_at hl 0 rfl) ?_
  refine lv_iload_n S.1 S.2.1 dJ1_charAt_3b067_7 rfl (lv_at hl 1 rfl) ?_
  refine va_tb S.1 S.2.1 (hE.2.2.2.1.1 i hi).2.2.2 hS hj (v := .int (sCh i j)) rfl dJ1_charAt_3b067_8 ?_
  refine lv_sipush (v := 255) S.1 S.2.1 dJ1_charAt_3b067_9 (by decide) ?_
  refine lv_iand S.1 S.2.1 dJ1_charAt_3b067_12 ?_
  refine lv_i2c (v := sCh i j) S.1 S.2.1 dJ1_charAt_3b067_13 (str_ok i j).1 ?_
  exact g_nretR S hr hlk hS (str_ok i j).2 rfl dJ1_charAt_3b067_14
set_option maxHeartbeats 4000000 in
theorem c_J0_charAt_5068e (l : Launch) (D : va_G) (A : Nat → Prop) (w : va_W) (i : Nat) (hi : i < strLen.length) (j : Int32) (hj : vp_in j (strLen.getD i 0)) : Met l yJ0_charAt_5068e (ws_ yJ0_charAt_5068e cJ0_charAt_5068e 2 (some .char)) ({ frames := 3, cells := 0, slots := 0, locals := 64 }) (gPre D A [.ref (D.2 200 i), .int j] w) (gR (some (.int (sCh i j)))) 0 0 A := by
  refine g_met [(0, .ref (D.2 200 i)), (1, .int j)] (by decide +kernel) (Nat.le_of_ble_eq_true rfl) rfl (fun pg en s mi ar below me co ls S hK hP hD hE hS hr hlk hnm hl => ?_)
  refine lv_aload_n S.1 S.2.1 dJ0_charAt_5068e_0 rfl (lv_at hl 0 rfl) ?_
  refine g_aftR0 (st1 := [.int 1]) (g_Vs (As := []) (rest := []) S mi_J0_isLatin1_aae02 qw554 (c_J0_isLatin1_aae02 l D A w i hi) hK hP hD hE hS hi rfl rfl hl.1 (Nat.le_of_ble_eq_true rfl) rfl rfl ⟨Nat.le_of_ble_eq_true rfl, Nat.le_of_ble_eq_true rfl⟩ ⟨Nat.le_of_ble_eq_true rfl, Nat.le_of_ble_eq_true rfl⟩ dJ0_charAt_5068e_1) hS rfl (fun locs hS => ?_)
  refine lv_if_eq (tgt := 16) S.1 S.2.1 dJ0_charAt_5068e_4 (by decide) (fun q => absurd q (by decide)) (fun _ => ?_)
  refine lv_aload_n S.1 S.2.1 dJ0_charAt_5068e_7 rfl (lv_at hl 0 rfl) ?_
  refine vk_getf S.1 S.2.1 (hE.2.2.2.1.1 i hi).2.2.1 hS S.2.2.2.1 (S.2.2.2.2 _ qw1077) (fun _ h => h) dJ0_charAt_5068e_8 ?_
  refine lv_iload_n S.1 S.2.1 dJ0_charAt_5068e_11 rfl (lv_at hl 1 rfl) ?_
  refine g_aftR0 (st1 := [.int (sCh i j)]) (g_St (As := [.ref (D.2 201 i), .int j]) (rest := []) S ms_J1_charAt_3b067 qw558 (c_J1_charAt_3b067 l D A w i hi j hj) hK hP hD hE hS rfl rfl hl.1 (Nat.le_of_ble_eq_true rfl) rfl rfl ⟨Nat.le_of_ble_eq_true rfl, Nat.le_of_ble_eq_true rfl⟩ ⟨Nat.le_of_ble_eq_true rfl, Nat.le_of_ble_eq_true rfl⟩ dJ0_charAt_5068e_12) hS rfl (fun locs hS => ?_)
  exact g_nretR S hr hlk hS (str_ok i j).2 rfl dJ0_charAt_5068e_15
theorem ldS_0 {D : va_G} {A : Nat → Prop} {U : State} {H : Heap} (hE : EV D A U H) : vk_R RX4 50 "season" (D.2 200 0) U := hE.2.2.1 (RX4, 50, "season", 0) (List.mem_of_getElem? (i := 0) rfl)
theorem ldS_1 {D : va_G} {A : Nat → Prop} {U : State} {H : Heap} (hE : EV D A U H) : vk_R RX4 60 "shares" (D.2 200 1) U := hE.2.2.1 (RX4, 60, "shares", 1) (List.mem_of_getElem? (i := 1) rfl)
theorem ldS_2 {D : va_G} {A : Nat → Prop} {U : State} {H : Heap} (hE : EV D A U H) : vk_R RX4 65 "less" (D.2 200 2) U := hE.2.2.1 (RX4, 65, "less", 2) (List.mem_of_getElem? (i := 2) rfl)
theorem ldS_3 {D : va_G} {A : Nat → Prop} {U : State} {H : Heap} (hE : EV D A U H) : vk_R RX4 67 "least" (D.2 200 3) U := hE.2.2.1 (RX4, 67, "least", 3) (List.mem_of_getElem? (i := 3) rfl)
theorem ldS_4 {D : va_G} {A : Nat → Prop} {U : State} {H : Heap} (hE : EV D A U H) : vk_R RX4 69 "carry" (D.2 200 4) U := hE.2.2.1 (RX4, 69, "carry", 4) (List.mem_of_getElem? (i := 4) rfl)
theorem ldS_5 {D : va_G} {A : Nat → Prop} {U : State} {H : Heap} (hE : EV D A U H) : vk_R RX4 71 "appeal" (D.2 200 5) U := hE.2.2.1 (RX4, 71, "appeal", 5) (List.mem_of_getElem? (i := 5) rfl)
theorem ldS_6 {D : va_G} {A : Nat → Prop} {U : State} {H : Heap} (hE : EV D A U H) : vk_R RX4 73 "recounts" (D.2 200 6) U := hE.2.2.1 (RX4, 73, "recounts", 6) (List.mem_of_getElem? (i := 6) rfl)
theorem ldS_7 {D : va_G} {A : Nat → Prop} {U : State} {H : Heap} (hE : EV D A U H) : vk_R RX4 78 "boat" (D.2 200 7) U := hE.2.2.1 (RX4, 78, "boat", 7) (List.mem_of_getElem? (i := 7) rfl)
theorem ldS_8 {D : va_G} {A : Nat → Prop} {U : State} {H : Heap} (hE : EV D A U H) : vk_R RX4 100 "person" (D.2 200 8) U := hE.2.2.1 (RX4, 100, "person", 8) (List.mem_of_getElem? (i := 8) rfl)
theorem ldS_9 {D : va_G} {A : Nat → Prop} {U : State} {H : Heap} (hE : EV D A U H) : vk_R RX4 108 "of" (D.2 200 9) U := hE.2.2.1 (RX4, 108, "of", 9) (List.mem_of_getElem? (i := 9) rfl)
theorem ldS_10 {D : va_G} {A : Nat → Prop} {U : State} {H : Heap} (hE : EV D A U H) : vk_R RX6 83 "hand" (D.2 200 10) U := hE.2.2.1 (RX6, 83, "hand", 10) (List.mem_of_getElem? (i := 10) rfl)
theorem ldS_11 {D : va_G} {A : Nat → Prop} {U : State} {H : Heap} (hE : EV D A U H) : vk_R RX6 85 "with" (D.2 200 11) U := hE.2.2.1 (RX6, 85, "with", 11) (List.mem_of_getElem? (i := 11) rfl)
theorem ldS_12 {D : va_G} {A : Nat → Prop} {U : State} {H : Heap} (hE : EV D A U H) : vk_R RX6 87 "laid" (D.2 200 12) U := hE.2.2.1 (RX6, 87, "laid", 12) (List.mem_of_getElem? (i := 12) rfl)
theorem ldS_13 {D : va_G} {A : Nat → Prop} {U : State} {H : Heap} (hE : EV D A U H) : vk_R RX6 89 "struck" (D.2 200 13) U := hE.2.2.1 (RX6, 89, "struck", 13) (List.mem_of_getElem? (i := 13) rfl)
theorem ldS_14 {D : va_G} {A : Nat → Prop} {U : State} {H : Heap} (hE : EV D A U H) : vk_R RX6 59 " *" (D.2 200 14) U := hE.2.2.1 (RX6, 59, " *", 14) (List.mem_of_getElem? (i := 14) rfl)
theorem ldS_15 {D : va_G} {A : Nat → Prop} {U : State} {H : Heap} (hE : EV D A U H) : vk_R RX6 109 "sails" (D.2 200 15) U := hE.2.2.1 (RX6, 109, "sails", 15) (List.mem_of_getElem? (i := 15) rfl)
theorem ldS_16 {D : va_G} {A : Nat → Prop} {U : State} {H : Heap} (hE : EV D A U H) : vk_R RX6 111 "home" (D.2 200 16) U := hE.2.2.1 (RX6, 111, "home", 16) (List.mem_of_getElem? (i := 16) rfl)
theorem ldS_17 {D : va_G} {A : Nat → Prop} {U : State} {H : Heap} (hE : EV D A U H) : vk_R RX6 113 "opens" (D.2 200 17) U := hE.2.2.1 (RX6, 113, "opens", 17) (List.mem_of_getElem? (i := 17) rfl)
theorem ldS_18 {D : va_G} {A : Nat → Prop} {U : State} {H : Heap} (hE : EV D A U H) : vk_R RX6 115 "fault" (D.2 200 18) U := hE.2.2.1 (RX6, 115, "fault", 18) (List.mem_of_getElem? (i := 18) rfl)
theorem ldS_19 {D : va_G} {A : Nat → Prop} {U : State} {H : Heap} (hE : EV D A U H) : vk_R RX6 117 "closed" (D.2 200 19) U := hE.2.2.1 (RX6, 117, "closed", 19) (List.mem_of_getElem? (i := 19) rfl)
theorem ldS_20 {D : va_G} {A : Nat → Prop} {U : State} {H : Heap} (hE : EV D A U H) : vk_R RX6 119 "turns" (D.2 200 20) U := hE.2.2.1 (RX6, 119, "turns", 20) (List.mem_of_getElem? (i := 20) rfl)
theorem ldS_21 {D : va_G} {A : Nat → Prop} {U : State} {H : Heap} (hE : EV D A U H) : vk_R RX6 137 "season" (D.2 200 0) U := hE.2.2.1 (RX6, 137, "season", 0) (List.mem_of_getElem? (i := 21) rfl)
theorem ldS_22 {D : va_G} {A : Nat → Prop} {U : State} {H : Heap} (hE : EV D A U H) : vk_R RX6 142 " shares" (D.2 200 21) U := hE.2.2.1 (RX6, 142, " shares", 21) (List.mem_of_getElem? (i := 22) rfl)
theorem ldS_23 {D : va_G} {A : Nat → Prop} {U : State} {H : Heap} (hE : EV D A U H) : vk_R RX6 144 " less" (D.2 200 22) U := hE.2.2.1 (RX6, 144, " less", 22) (List.mem_of_getElem? (i := 23) rfl)
theorem ldS_24 {D : va_G} {A : Nat → Prop} {U : State} {H : Heap} (hE : EV D A U H) : vk_R RX6 146 " least" (D.2 200 23) U := hE.2.2.1 (RX6, 146, " least", 23) (List.mem_of_getElem? (i := 24) rfl)
theorem ldS_25 {D : va_G} {A : Nat → Prop} {U : State} {H : Heap} (hE : EV D A U H) : vk_R RX6 148 " carry" (D.2 200 24) U := hE.2.2.1 (RX6, 148, " carry", 24) (List.mem_of_getElem? (i := 25) rfl)
theorem ldS_26 {D : va_G} {A : Nat → Prop} {U : State} {H : Heap} (hE : EV D A U H) : vk_R RX6 150 " appeal" (D.2 200 25) U := hE.2.2.1 (RX6, 150, " appeal", 25) (List.mem_of_getElem? (i := 26) rfl)
theorem ldS_27 {D : va_G} {A : Nat → Prop} {U : State} {H : Heap} (hE : EV D A U H) : vk_R RX6 152 " recounts" (D.2 200 26) U := hE.2.2.1 (RX6, 152, " recounts", 26) (List.mem_of_getElem? (i := 27) rfl)
theorem ldS_28 {D : va_G} {A : Nat → Prop} {U : State} {H : Heap} (hE : EV D A U H) : vk_R RX6 128 "boat " (D.2 200 27) U := hE.2.2.1 (RX6, 128, "boat ", 27) (List.mem_of_getElem? (i := 28) rfl)
theorem ldS_29 {D : va_G} {A : Nat → Prop} {U : State} {H : Heap} (hE : EV D A U H) : vk_R RX6 157 "person " (D.2 200 28) U := hE.2.2.1 (RX6, 157, "person ", 28) (List.mem_of_getElem? (i := 29) rfl)
theorem ldS_30 {D : va_G} {A : Nat → Prop} {U : State} {H : Heap} (hE : EV D A U H) : vk_R RX6 159 " of " (D.2 200 29) U := hE.2.2.1 (RX6, 159, " of ", 29) (List.mem_of_getElem? (i := 30) rfl)
