/-! THE JDK's TEXTS: length, characters of a text that nobody writes -/
theorem stX_and {X Y : State → Heap → Prop} (h1 : stX X) (h2 : stX Y) : stX (fun U H => X U H ∧ Y U H) := fun u U H hv h => ⟨h1 u U H hv h.1, h2 u U H hv h.2⟩
theorem stX_tx {A : Nat → Prop} {a v n : Nat} {b : Nat → Int32} : stX (fun U H => Tx A U H a v n b) := fun _ _ _ hv h => h.moved hv
theorem stX_bt {A : Nat → Prop} {v n : Nat} {f : Nat → Value} {ty : FieldType} : stX (fun U H => va_T ty v n f A U H) := fun _ _ _ hv h => va_T.moved hv h
theorem stX_sz {n : Nat} : stX (fun _ H => n ≤ H.size) := fun _ _ _ _ h => h
theorem Tx.recv {A : Nat → Prop} {s : State} {H : Heap} {a v n : Nat} {b : Nat → Int32} (h : Tx A s H a v n b) : ∃ cell : Cell, H[a]? = some cell ∧ cell.vm.isStatics = false ∧ s.vm.findClass "java/lang/String" = some cell.cls := by
  obtain ⟨cell, h1, h2, h3, -⟩ := h.1
  exact ⟨cell, h1, h2, h3⟩
/-- a Latin-1 letter below 128 -/
def asc (x : Int32) : Prop := 0 ≤ x ∧ x < 128
theorem asc_nI {x : Int32} (h : asc x) : ∃ k : Nat, k < 128 ∧ x = nI k := by
  have h0 := Int32.le_iff_toInt_le.mp h.1
  have h1 := Int32.lt_iff_toInt_lt.mp h.2
  rw [Int32.toInt_zero] at h0
  rw [show (128 : Int32).toInt = 128 by decide] at h1
  refine ⟨x.toInt.toNat, by omega, ?_⟩
  exact Int32.toInt_inj.mp (by rw [nI_toInt (by omega)]; omega)
theorem asc_all : ∀ k, k < 128 → ((nI k).toInt8.toInt32 = nI k ∧ ((nI k &&& 255).toUInt32 % 65536).toInt32 = nI k ∧ ((nI k).toUInt32 % 65536).toInt32 = nI k ∧ fits .byte (.int (nI k)) = true ∧ narrow .char (.int (nI k)) = .int (nI k) ∧ nI k ≤ 255) := by decide +kernel
theorem asc_ok {x : Int32} (h : asc x) : (x.toInt8.toInt32 = x ∧ ((x &&& 255).toUInt32 % 65536).toInt32 = x ∧ (x.toUInt32 % 65536).toInt32 = x ∧ fits .byte (.int x) = true ∧ narrow .char (.int x) = .int x ∧ x ≤ 255) := by
  obtain ⟨k, hk, rfl⟩ := asc_nI h
  exact asc_all k hk
/-! calls on a StringBuilder: what it inherits -/
def MU (y : MethodName) (bytes : ByteArray) (maxL : Nat) (ret : Option FieldType) (n : Nat) : Prop := Cond.instanceMethod y ∈ lw_all ∧ Cond.selects RJ4 y y ∈ lw_all ∧ Cond.initialized y.cls ∈ lw_all ∧ Cond.code y bytes maxL ret ∈ lw_all ∧ Cond.sameMethod y.cls y.cls y.name y.desc ∈ lw_all ∧ (y.cls ≠ "java/lang/invoke/MethodHandle" ∧ y.cls ≠ "java/lang/invoke/VarHandle" ∧ (parseMethodDescriptor y.desc).map (fun d => d.parameters.length) = some n)
def MSu (own : String) (y : MethodName) (bytes : ByteArray) (maxL : Nat) (ret : Option FieldType) (n : Nat) : Prop := Cond.instanceMethod y ∈ lw_all ∧ Cond.superclass own y.cls ∈ lw_all ∧ Cond.initialized y.cls ∈ lw_all ∧ Cond.code y bytes maxL ret ∈ lw_all ∧ Cond.sameMethod y.cls y.cls y.name y.desc ∈ lw_all ∧ (y.name ≠ "<init>" ∧ (parseMethodDescriptor y.desc).map (fun d => d.parameters.length) = some n)
def MO (x y : MethodName) (bytes : ByteArray) (maxL : Nat) (ret : Option FieldType) (n : Nat) (b0 : ByteArray) (m0 : Nat) (r0 : Option FieldType) : Prop := Cond.instanceMethod x ∈ lw_all ∧ Cond.selects RJ4 x y ∈ lw_all ∧ Cond.instanceMethod y ∈ lw_all ∧ Cond.initialized y.cls ∈ lw_all ∧ Cond.code y bytes maxL ret ∈ lw_all ∧ Cond.sameMethod x.cls x.cls x.name x.desc ∈ lw_all ∧ Cond.code x b0 m0 r0 ∈ lw_all ∧ (x.cls ≠ "java/lang/invoke/MethodHandle" ∧ x.cls ≠ "java/lang/invoke/VarHandle" ∧ (parseMethodDescriptor x.desc).map (fun d => d.parameters.length) = some n)
section GXU
variable {p : Program} {l : Launch} {e : Env} {R : Room} {s : State} {m : MethodId} {args : Array Value} {below : List Frame} {meth : Method} {c : Code} {H : Heap} {locs : List Loc} {cells slots : Nat} {Q : State → Prop}
variable {cc : ByteArray} {nL pc : Nat} {ls : Array Slot} {rest : List Value} {D : va_G} {A A1 : Nat → Prop} {ws : va_W} {own : String} {H0 : Heap}
variable {y : MethodName} {bytes : ByteArray} {maxL n index b mc ms : Nat} {C : String} {ret : Option FieldType} {rm : Room} {As : List Value} {Qc : Array Value → State → Outcome → State → Prop} {st0 : List Value} {X : State → Heap → Prop}
theorem good_all {ws : List Cond} (h : ∀ w ∈ ws, w ∈ lw_all) : GoodIn lw_all ws := fun w hw => ⟨h w hw, good_of_word (lw_good _ (h w hw))⟩
theorem ws_sub (h : Cond.code y bytes maxL ret ∈ lw_all) : ∀ w ∈ ws_ y bytes maxL ret, w ∈ lw_all := fun w hw => (ws_good h w hw).1
theorem x_U (S : CallFix p m c cc nL s args lw_all own) (I : MU y bytes maxL ret n) (L : Cond.methodLink own index y ∈ lw_all)
    (hM : Met l y (ws_ y bytes maxL ret) rm (gPx D A1 (.ref b :: As) ws X) Qc mc ms A1) (hX : stX X) (hK : va_K D vwCl (gTys D) s) (hP : va_P D vwCl ws H) (hD : va_D A1 ws) (hE : EV D A1 s H) (hx : X s H)
    (hr : ∃ cell : Cell, H[b]? = some cell ∧ cell.vm.isStatics = false ∧ s.vm.findClass RJ4 = some cell.cls) (hst : st0 = As.reverse ++ .ref b :: rest) (hn : As.length = n) (hls : ls.size = nL) (hW : (rest.map fun v => v.category).sum ≤ 8)
    (hrc : rm.cells = mc) (hrs : rm.slots = ms) (hR : rm.frames + 1 ≤ R.frames ∧ 8 + (maxL + 11) + rm.locals ≤ R.locals) (hf : cells + mc ≤ R.cells ∧ slots + ms ≤ R.slots) (hdg : decode cc pc = .ok (.invokevirtual index, 3)) :
    va_Run p l e R s m args below meth c H locs cells slots mc ms (F0 m pc ls st0) rest (Qc (Value.ref b :: As).toArray) A1 := by
  obtain ⟨i1, i2, i3, i4, i6, i5⟩ := I
  have hts := S.2.2.2.2
  have hG : GoodIn lw_all (va_wsU own index RJ4 y.cls y y (ws_ y bytes maxL ret)) := by
    refine good_all (fun w hw => ?_)
    rcases List.mem_append.mp hw with h | h
    · rcases List.mem_cons.mp h with h | h
      · rw [h]; exact L
      · rcases List.mem_cons.mp h with h | h
        · rw [h]; exact i6
        · rcases List.mem_cons.mp h with h | h
          · rw [h]; exact i2
          · rcases List.mem_cons.mp h with h | h
            · rw [h]; exact i1
            · rw [List.mem_singleton.mp h]; exact i3
    · exact ws_sub i4 w h
  have cw := va_cwU (R := R) (s := s) (args := args) (own := own) (C := RJ4) (owner := y.cls) (index := index) (x := y) (y := y) (mc := mc) (ms := ms) n hts hG rfl hrc hrs rfl ⟨i5.1, i5.2.1, i5.2.2⟩ hR
  exact va_runU (As := As) (rest := rest) (index := index) (n := n) S hM cw ⟨gPx.blind hX, hr, x_pre hX hK hP hD hE hx⟩ rfl hn hls hst (lv_room hW) hdg hf
/-- virtual, overridden below -/
theorem x_O {x : MethodName} {b0 : ByteArray} {m0 : Nat} {r0 : Option FieldType} (S : CallFix p m c cc nL s args lw_all own) (I : MO x y bytes maxL ret n b0 m0 r0) (L : Cond.methodLink own index x ∈ lw_all)
    (hM : Met l y (ws_ y bytes maxL ret) rm (gPx D A1 (.ref b :: As) ws X) Qc mc ms A1) (hX : stX X) (hK : va_K D vwCl (gTys D) s) (hP : va_P D vwCl ws H) (hD : va_D A1 ws) (hE : EV D A1 s H) (hx : X s H)
    (hr : ∃ cell : Cell, H[b]? = some cell ∧ cell.vm.isStatics = false ∧ s.vm.findClass RJ4 = some cell.cls) (hst : st0 = As.reverse ++ .ref b :: rest) (hn : As.length = n) (hls : ls.size = nL) (hW : (rest.map fun v => v.category).sum ≤ 8)
    (hrc : rm.cells = mc) (hrs : rm.slots = ms) (hR : rm.frames + 1 ≤ R.frames ∧ 8 + (maxL + 11) + rm.locals ≤ R.locals) (hf : cells + mc ≤ R.cells ∧ slots + ms ≤ R.slots) (hdg : decode cc pc = .ok (.invokevirtual index, 3)) :
    va_Run p l e R s m args below meth c H locs cells slots mc ms (F0 m pc ls st0) rest (Qc (Value.ref b :: As).toArray) A1 := by
  obtain ⟨i0, i2, i1, i3, i4, i6, i7, i5⟩ := I
  have hts := S.2.2.2.2
  have hG : GoodIn lw_all (va_wsO own index RJ4 x.cls x y (ws_ y bytes maxL ret)) := by
    refine good_all (fun w hw => ?_)
    rcases List.mem_append.mp hw with h | h
    · rcases List.mem_cons.mp h with h | h
      · rw [h]; exact L
      · rcases List.mem_cons.mp h with h | h
        · rw [h]; exact i6
        · rcases List.mem_cons.mp h with h | h
          · rw [h]; exact i0
          · rcases List.mem_cons.mp h with h | h
            · rw [h]; exact i2
            · rcases List.mem_cons.mp h with h | h
              · rw [h]; exact i1
              · rw [List.mem_singleton.mp h]; exact i3
    · exact ws_sub i4 w h
  have cw := va_cwO (R := R) (s := s) (args := args) (own := own) (C := RJ4) (owner := x.cls) (index := index) (x := x) (y := y) (mc := mc) (ms := ms) n hts hG rfl hrc hrs i7 i5 hR
  exact va_runU (As := As) (rest := rest) (index := index) (n := n) S hM cw ⟨gPx.blind hX, hr, x_pre hX hK hP hD hE hx⟩ rfl hn hls hst (lv_room hW) hdg hf
/-- invokespecial of a method above -/
theorem x_SU (S : CallFix p m c cc nL s args lw_all own) (I : MSu own y bytes maxL ret n) (L : Cond.methodLink own index y ∈ lw_all)
    (hM : Met l y (ws_ y bytes maxL ret) rm (gPx D A1 (.ref b :: As) ws X) Qc mc ms A1) (hX : stX X) (hK : va_K D vwCl (gTys D) s) (hP : va_P D vwCl ws H) (hD : va_D A1 ws) (hE : EV D A1 s H) (hx : X s H)
    (hr : ∃ cell : Cell, H[b]? = some cell ∧ cell.vm.isStatics = false ∧ s.vm.findClass RJ4 = some cell.cls) (hst : st0 = As.reverse ++ .ref b :: rest) (hn : As.length = n) (hls : ls.size = nL) (hW : (rest.map fun v => v.category).sum ≤ 8)
    (hrc : rm.cells = mc) (hrs : rm.slots = ms) (hR : rm.frames + 1 ≤ R.frames ∧ 8 + (maxL + 11) + rm.locals ≤ R.locals) (hf : cells + mc ≤ R.cells ∧ slots + ms ≤ R.slots) (hdg : decode cc pc = .ok (.invokespecial index, 3)) :
    va_Run p l e R s m args below meth c H locs cells slots mc ms (F0 m pc ls st0) rest (Qc (Value.ref b :: As).toArray) A1 := by
  obtain ⟨i1, i2, i3, i4, i6, i5⟩ := I
  have hts := S.2.2.2.2
  have hG : GoodIn lw_all (va_wsSU own index y (ws_ y bytes maxL ret)) := by
    refine good_all (fun w hw => ?_)
    rcases List.mem_append.mp hw with h | h
    · rcases List.mem_cons.mp h with h | h
      · rw [h]; exact L
      · rcases List.mem_cons.mp h with h | h
        · rw [h]; exact i6
        · rcases List.mem_cons.mp h with h | h
          · rw [h]; exact i2
          · rcases List.mem_cons.mp h with h | h
            · rw [h]; exact i1
            · rw [List.mem_singleton.mp h]; exact i3
    · exact ws_sub i4 w h
  have cw := va_cwSU (R := R) (s := s) (args := args) (own := own) (index := index) (y := y) (mc := mc) (ms := ms) n hts hG rfl hrc hrs i5 hR
  exact va_runSU (As := As) (rest := rest) (index := index) (n := n) (C := RJ4) (hK.1 13 _ (rfl : vwCl[13]? = some (RJ4, TJ4, 4))).2 S hM cw ⟨gPx.blind hX, hr, x_pre hX hK hP hD hE hx⟩ rfl hn hls hst (lv_room hW) hdg hf
end GXU
theorem mu_J5_ensureCapacityInternal_d00df : MU yJ5_ensureCapacityInternal_d00df cJ5_ensureCapacityInternal_d00df 3 (Option.none : Option Jvm.ClassFile.FieldType) 1 := ⟨qw880, qb0, qw14, qw881, qw1614, by decide, by decide, by decide +kernel⟩
theorem mu_J5_newCapacity_0f7a4 : MU yJ5_newCapacity_0f7a4 cJ5_newCapacity_0f7a4 6 (Option.some Jvm.ClassFile.FieldType.int) 1 := ⟨qw884, qb1, qw14, qw885, qw1615, by decide, by decide, by decide +kernel⟩
theorem mu_J5_putStringAt_47b60 : MU yJ5_putStringAt_47b60 cJ5_putStringAt_47b60 3 (Option.none : Option Jvm.ClassFile.FieldType) 2 := ⟨qw929, qb2, qw14, qw930, qw1616, by decide, by decide, by decide +kernel⟩
theorem mu_J5_inflateIfNeededFor_a7421 : MU yJ5_inflateIfNeededFor_a7421 cJ5_inflateIfNeededFor_a7421 2 (Option.none : Option Jvm.ClassFile.FieldType) 1 := ⟨qw933, qb3, qw14, qw934, qw1617, by decide, by decide, by decide +kernel⟩
theorem mu_J5_isLatin1_aae02 : MU yJ5_isLatin1_aae02 cJ5_isLatin1_aae02 1 (Option.some Jvm.ClassFile.FieldType.boolean) 0 := ⟨qw907, qw909, qw14, qw910, qw908, by decide, by decide, by decide +kernel⟩
theorem mu_J5_getValue_6d5f1 : MU yJ5_getValue_6d5f1 cJ5_getValue_6d5f1 1 (Option.some (Jvm.ClassFile.FieldType.array Jvm.ClassFile.FieldType.byte)) 0 := ⟨qw1045, qw1047, qw14, qw1048, qw1046, by decide, by decide, by decide +kernel⟩
theorem msu_J5_append_cf1ce : MSu RJ4 yJ5_append_cf1ce cJ5_append_cf1ce 3 (Option.some (Jvm.ClassFile.FieldType.object "java/lang/AbstractStringBuilder")) 1 := ⟨qw862, qw872, qw14, qw873, qw863, by decide, by decide +kernel⟩
theorem msu_J5_append_3fe6f : MSu RJ4 yJ5_append_3fe6f cJ5_append_3fe6f 2 (Option.some (Jvm.ClassFile.FieldType.object "java/lang/AbstractStringBuilder")) 1 := ⟨qw1008, qw872, qw14, qw1009, qw1620, by decide, by decide +kernel⟩
theorem msu_J5_append_c97b9 : MSu RJ4 yJ5_append_c97b9 cJ5_append_c97b9 4 (Option.some (Jvm.ClassFile.FieldType.object "java/lang/AbstractStringBuilder")) 1 := ⟨qw981, qw872, qw14, qw982, qw1619, by decide, by decide +kernel⟩
theorem mo_J4_length_8abf5 : MO yJ5_length_8abf5 yJ4_length_8abf5 cJ4_length_8abf5 1 (Option.some Jvm.ClassFile.FieldType.int) 0 cJ5_length_8abf5 1 (Option.some Jvm.ClassFile.FieldType.int) := ⟨qw1050, qw1052, qw1053, qw15, qw1054, qw1051, qw1056, by decide, by decide, by decide +kernel⟩
theorem mo_J4_append_cf1ce : MO yJ5_append_cf1ce yJ4_append_cf1ce cJ4_append_cf1ce 2 (Option.some (Jvm.ClassFile.FieldType.object "java/lang/AbstractStringBuilder")) 1 cJ5_append_cf1ce 3 (Option.some (Jvm.ClassFile.FieldType.object "java/lang/AbstractStringBuilder")) := ⟨qw862, qw864, qw865, qw15, qw866, qw863, qw873, by decide, by decide, by decide +kernel⟩
set_option maxHeartbeats 4000000 in
theorem x_J0_coder_7d493 (l : Launch) (D : va_G) (A : Nat → Prop) (w : va_W) (a v n : Nat) (b : Nat → Int32) : Met l yJ0_coder_7d493 (ws_ yJ0_coder_7d493 cJ0_coder_7d493 1 (some .byte)) ({ frames := 0, cells := 0, slots := 0, locals := 0 }) (gPx D A [.ref a] w (fun U H => Tx A U H a v n b)) (gR (some (.int 0))) 0 0 A := by
  refine g_metX [(0, .ref a)] (by decide +kernel) (Nat.le_of_ble_eq_true rfl) rfl (fun pg en s mi ar below me co ls S hK hP hD hE hS hx hr hlk hnm hl => ?_)
  refine va_gets S.1 S.2.1 hE.2.2.2.2.1 hS S.2.2.2.1 (S.2.2.2.2 _ qw548) (fun _ h => h) dJ0_coder_7d493_0 ?_
  refine lv_if_eq (tgt := 13) S.1 S.2.1 dJ0_coder_7d493_3 (by decide) (fun q => absurd q (by decide)) (fun _ => ?_)
  refine lv_aload_n S.1 S.2.1 dJ0_coder_7d493_6 rfl (lv_at hl 0 rfl) ?_
  refine vk_getf S.1 S.2.1 hx.2.1 hS S.2.2.2.1 (S.2.2.2.2 _ qw1078) (fun _ h => h) dJ0_coder_7d493_7 ?_
  refine lv_goto (tgt := 14) S.1 S.2.1 dJ0_coder_7d493_10 (by decide) ?_
  exact g_nretR S hr hlk hS (by decide) rfl dJ0_coder_7d493_14
set_option maxHeartbeats 4000000 in
theorem x_J0_isLatin1_aae02 (l : Launch) (D : va_G) (A : Nat → Prop) (w : va_W) (a v n : Nat) (b : Nat → Int32) : Met l yJ0_isLatin1_aae02 (ws_ yJ0_isLatin1_aae02 cJ0_isLatin1_aae02 1 (some .boolean)) ({ frames := 0, cells := 0, slots := 0, locals := 0 }) (gPx D A [.ref a] w (fun U H => Tx A U H a v n b)) (gR (some (.int 1))) 0 0 A := by
  refine g_metX [(0, .ref a)] (by decide +kernel) (Nat.le_of_ble_eq_true rfl) rfl (fun pg en s mi ar below me co ls S hK hP hD hE hS hx hr hlk hnm hl => ?_)
  refine va_gets S.1 S.2.1 hE.2.2.2.2.1 hS S.2.2.2.1 (S.2.2.2.2 _ qw548) (fun _ h => h) dJ0_isLatin1_aae02_0 ?_
  refine lv_if_eq (tgt := 17) S.1 S.2.1 dJ0_isLatin1_aae02_3 (by decide) (fun q => absurd q (by decide)) (fun _ => ?_)
  refine lv_aload_n S.1 S.2.1 dJ0_isLatin1_aae02_6 rfl (lv_at hl 0 rfl) ?_
  refine vk_getf S.1 S.2.1 hx.2.1 hS S.2.2.2.1 (S.2.2.2.2 _ qw1078) (fun _ h => h) dJ0_isLatin1_aae02_7 ?_
  refine lv_if_ne (tgt := 17) S.1 S.2.1 dJ0_isLatin1_aae02_10 (by decide) (fun q => absurd rfl q) (fun _ => ?_)
  refine lv_iconst (v := 1) S.1 S.2.1 dJ0_isLatin1_aae02_13 (by decide) ?_
  refine lv_goto (tgt := 18) S.1 S.2.1 dJ0_isLatin1_aae02_14 (by decide) ?_
  exact g_nretR S hr hlk hS (by decide) rfl dJ0_isLatin1_aae02_18
set_option maxHeartbeats 4000000 in
theorem x_J0_length_8abf5 (l : Launch) (D : va_G) (A : Nat → Prop) (w : va_W) (a v n : Nat) (b : Nat → Int32) : Met l yJ0_length_8abf5 (ws_ yJ0_length_8abf5 cJ0_length_8abf5 1 (some .int)) ({ frames := 1, cells := 0, slots := 0, locals := 20 }) (gPx D A [.ref a] w (fun U H => Tx A U H a v n b)) (gR (some (.int (nI n)))) 0 0 A := by
  refine g_metX [(0, .ref a)] (by decide +kernel) (Nat.le_of_ble_eq_true rfl) rfl (fun pg en s mi ar below me co ls S hK hP hD hE hS hx hr hlk hnm hl => ?_)
  refine lv_aload_n S.1 S.2.1 dJ0_length_8abf5_0 rfl (lv_at hl 0 rfl) ?_
  refine vk_getf S.1 S.2.1 hx.2.2.1 hS S.2.2.2.1 (S.2.2.2.2 _ qw1077) (fun _ h => h) dJ0_length_8abf5_1 ?_
  refine va_tlen S.1 S.2.1 hx.2.2.2 hS (v := nI n) rfl dJ0_length_8abf5_4 ?_
  refine lv_aload_n S.1 S.2.1 dJ0_length_8abf5_5 rfl (lv_at hl 0 rfl) ?_
  refine x_aftR (st1 := [.int 0, .int (nI n)]) (x_V (As := []) (rest := [.int (nI n)]) S mi_J0_coder_7d493 qw544 (x_J0_coder_7d493 l D A w a v n b) stX_tx hK hP hD (hE.kept hS.2.1) (hx.kept hS.2.1) (hx.kept hS.2.1).recv rfl rfl hl.1 (Nat.le_of_ble_eq_true rfl) rfl rfl ⟨(Nat.le_of_ble_eq_true rfl), (Nat.le_of_ble_eq_true rfl)⟩ ⟨(Nat.le_of_ble_eq_true rfl), (Nat.le_of_ble_eq_true rfl)⟩ dJ0_length_8abf5_6) hS (fun _ h => h) rfl (fun locs hS => ?_)
  refine lv_ishr S.1 S.2.1 dJ0_length_8abf5_9 ?_
  rw [shr0]
  exact g_iretR S hr hlk hS rfl dJ0_length_8abf5_10
set_option maxHeartbeats 4000000 in
theorem x_J1_charAt_3b067 (l : Launch) (D : va_G) (A : Nat → Prop) (w : va_W) (v n : Nat) (b : Nat → Int32) (j : Nat) (hj : j < n) (hn : n < 65536) (hb : asc (b j)) : Met l yJ1_charAt_3b067 (ws_ yJ1_charAt_3b067 cJ1_charAt_3b067 2 (some .char)) ({ frames := 2, cells := 0, slots := 0, locals := 43 }) (gPx D A [.ref v, .int (nI j)] w (fun U H => va_T .byte v n (fun j => .int (b j)) A U H)) (gR (some (.int (b j)))) 0 0 A := by
  refine g_metX [(0, .ref v), (1, .int (nI j))] (by decide +kernel) (Nat.le_of_ble_eq_true rfl) rfl (fun pg en s mi ar below me co ls S hK hP hD hE hS hx hr hlk hnm hl => ?_)
  refine lv_iload_n S.1 S.2.1 dJ1_charAt_3b067_0 rfl (lv_at hl 1 rfl) ?_
  refine lv_aload_n S.1 S.2.1 dJ1_charAt_3b067_1 rfl (lv_at hl 0 rfl) ?_
  refine va_tlen S.1 S.2.1 hx hS (v := nI n) rfl dJ1_charAt_3b067_2 ?_
  refine x_aftR (st1 := []) (x_St0 (As := [.int (nI j), .int (nI n)]) (rest := []) S ms_J0_checkIndex_df160 qw561 (c_J0_checkIndex_df160 l D A w (nI j) (nI n) (nI_pos (by omega)) (nI_lt hj (by omega))) hK hP hD (hE.kept hS.2.1) rfl rfl hl.1 (Nat.le_of_ble_eq_true rfl) rfl rfl ⟨(Nat.le_of_ble_eq_true rfl), (Nat.le_of_ble_eq_true rfl)⟩ ⟨(Nat.le_of_ble_eq_true rfl), (Nat.le_of_ble_eq_true rfl)⟩ dJ1_charAt_3b067_3) hS (fun _ h => h) rfl (fun locs hS => ?_)
  refine lv_aload_n S.1 S.2.1 dJ1_charAt_3b067_6 rfl (lv_at hl 0 rfl) ?_
  refine lv_iload_n S.1 S.2.1 dJ1_charAt_3b067_7 rfl (lv_at hl 1 rfl) ?_
  refine va_tb S.1 S.2.1 hx hS (vp_in_nI hj (by omega)) (v := .int (b j)) (by rw [nI_clamp (by omega)]) dJ1_charAt_3b067_8 ?_
  refine lv_sipush (v := 255) S.1 S.2.1 dJ1_charAt_3b067_9 (by decide) ?_
  refine lv_iand S.1 S.2.1 dJ1_charAt_3b067_12 ?_
  refine lv_i2c (v := b j) S.1 S.2.1 dJ1_charAt_3b067_13 (asc_ok hb).2.1 ?_
  exact g_nretR S hr hlk hS (asc_ok hb).2.2.2.2.1 rfl dJ1_charAt_3b067_14
set_option maxHeartbeats 4000000 in
theorem x_J0_charAt_5068e (l : Launch) (D : va_G) (A : Nat → Prop) (w : va_W) (a v n : Nat) (b : Nat → Int32) (j : Nat) (hj : j < n) (hn : n < 65536) (hb : asc (b j)) : Met l yJ0_charAt_5068e (ws_ yJ0_charAt_5068e cJ0_charAt_5068e 2 (some .char)) ({ frames := 3, cells := 0, slots := 0, locals := 64 }) (gPx D A [.ref a, .int (nI j)] w (fun U H => Tx A U H a v n b)) (gR (some (.int (b j)))) 0 0 A := by
  refine g_metX [(0, .ref a), (1, .int (nI j))] (by decide +kernel) (Nat.le_of_ble_eq_true rfl) rfl (fun pg en s mi ar below me co ls S hK hP hD hE hS hx hr hlk hnm hl => ?_)
  refine lv_aload_n S.1 S.2.1 dJ0_charAt_5068e_0 rfl (lv_at hl 0 rfl) ?_
  refine x_aftR (st1 := [.int 1]) (x_V (As := []) (rest := []) S mi_J0_isLatin1_aae02 qw554 (x_J0_isLatin1_aae02 l D A w a v n b) stX_tx hK hP hD (hE.kept hS.2.1) (hx.kept hS.2.1) (hx.kept hS.2.1).recv rfl rfl hl.1 (Nat.le_of_ble_eq_true rfl) rfl rfl ⟨(Nat.le_of_ble_eq_true rfl), (Nat.le_of_ble_eq_true rfl)⟩ ⟨(Nat.le_of_ble_eq_true rfl), (Nat.le_of_ble_eq_true rfl)⟩ dJ0_charAt_5068e_1) hS (fun _ h => h) rfl (fun locs hS => ?_)
  refine lv_if_eq (tgt := 16) S.1 S.2.1 dJ0_charAt_5068e_4 (by decide) (fun q => absurd q (by decide)) (fun _ => ?_)
  refine lv_aload_n S.1 S.2.1 dJ0_charAt_5068e_7 rfl (lv_at hl 0 rfl) ?_
  refine vk_getf S.1 S.2.1 hx.2.2.1 hS S.2.2.2.1 (S.2.2.2.2 _ qw1077) (fun _ h => h) dJ0_charAt_5068e_8 ?_
  refine lv_iload_n S.1 S.2.1 dJ0_charAt_5068e_11 rfl (lv_at hl 1 rfl) ?_
  refine x_aftR (st1 := [.int (b j)]) (x_St (As := [.ref v, .int (nI j)]) (rest := []) S ms_J1_charAt_3b067 qw558 (x_J1_charAt_3b067 l D A w v n b j hj hn hb) stX_bt hK hP hD (hE.kept hS.2.1) (hx.2.2.2.kept hS.2.1) rfl rfl hl.1 (Nat.le_of_ble_eq_true rfl) rfl rfl ⟨(Nat.le_of_ble_eq_true rfl), (Nat.le_of_ble_eq_true rfl)⟩ ⟨(Nat.le_of_ble_eq_true rfl), (Nat.le_of_ble_eq_true rfl)⟩ dJ0_charAt_5068e_12) hS (fun _ h => h) rfl (fun locs hS => ?_)
  exact g_nretR S hr hlk hS (asc_ok hb).2.2.2.2.1 rfl dJ0_charAt_5068e_15
