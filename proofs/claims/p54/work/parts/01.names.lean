-- ===== PART A: goes FIRST, ahead of the names: the tables' words, and 'selects' of the private methods out of them =====
/-- a private method of a class that the tables say can be made, by its rows of tables_1 -/
def lw_okq (q : MethodName × Nat) : Prop := (q.1.cls ≠ "java/lang/invoke/MethodHandle" ∧ q.1.cls ≠ "java/lang/invoke/VarHandle") ∧ Cond.instantiable q.1.cls q.2 ∈ tables_1 ∧ Cond.privateMethod q.1 ∈ tables_1 ∧ Cond.instanceMethod q.1 ∈ tables_1
theorem lw_p0 : lw_okq (⟨"StickVotes$Village", "latestVote", "()I"⟩, 3) := ⟨⟨by decide +kernel, by decide +kernel⟩, List.mem_of_getElem? (i := 100) (by decide +kernel), List.mem_of_getElem? (i := 448) (by decide +kernel), List.mem_of_getElem? (i := 449) (by decide +kernel)⟩
theorem lw_p1 : lw_okq (⟨"StickVotes$Ring", "placeOf", "(I)I"⟩, 3) := ⟨⟨by decide +kernel, by decide +kernel⟩, List.mem_of_getElem? (i := 164) (by decide +kernel), List.mem_of_getElem? (i := 456) (by decide +kernel), List.mem_of_getElem? (i := 457) (by decide +kernel)⟩
theorem lw_p2 : lw_okq (⟨"StickVotes", "isPerson", "(I)Z"⟩, 10) := ⟨⟨by decide +kernel, by decide +kernel⟩, List.mem_of_getElem? (i := 25) (by decide +kernel), List.mem_of_getElem? (i := 468) (by decide +kernel), List.mem_of_getElem? (i := 469) (by decide +kernel)⟩
theorem lw_p3 : lw_okq (⟨"StickVotes$Parser", "advance", "()V"⟩, 5) := ⟨⟨by decide +kernel, by decide +kernel⟩, List.mem_of_getElem? (i := 33) (by decide +kernel), List.mem_of_getElem? (i := 610) (by decide +kernel), List.mem_of_getElem? (i := 611) (by decide +kernel)⟩
theorem lw_p4 : lw_okq (⟨"StickVotes$Parser", "readNumbers", "()Z"⟩, 5) := ⟨⟨by decide +kernel, by decide +kernel⟩, List.mem_of_getElem? (i := 33) (by decide +kernel), List.mem_of_getElem? (i := 628) (by decide +kernel), List.mem_of_getElem? (i := 629) (by decide +kernel)⟩
theorem lw_p5 : lw_okq (⟨"StickVotes$Parser", "skipKeyword", "(Ljava/lang/String;)Z"⟩, 5) := ⟨⟨by decide +kernel, by decide +kernel⟩, List.mem_of_getElem? (i := 33) (by decide +kernel), List.mem_of_getElem? (i := 633) (by decide +kernel), List.mem_of_getElem? (i := 634) (by decide +kernel)⟩
theorem lw_p6 : lw_okq (⟨"StickVotes$Parser", "isKeyword", "(Ljava/lang/String;)Z"⟩, 5) := ⟨⟨by decide +kernel, by decide +kernel⟩, List.mem_of_getElem? (i := 33) (by decide +kernel), List.mem_of_getElem? (i := 637) (by decide +kernel), List.mem_of_getElem? (i := 638) (by decide +kernel)⟩
theorem lw_p7 : lw_okq (⟨"StickVotes$Parser", "reads", "(Ljava/lang/String;)Z"⟩, 5) := ⟨⟨by decide +kernel, by decide +kernel⟩, List.mem_of_getElem? (i := 33) (by decide +kernel), List.mem_of_getElem? (i := 641) (by decide +kernel), List.mem_of_getElem? (i := 642) (by decide +kernel)⟩
theorem lw_p8 : lw_okq (⟨"StickVotes$Parser", "readNumber", "(III)Z"⟩, 5) := ⟨⟨by decide +kernel, by decide +kernel⟩, List.mem_of_getElem? (i := 33) (by decide +kernel), List.mem_of_getElem? (i := 647) (by decide +kernel), List.mem_of_getElem? (i := 648) (by decide +kernel)⟩
theorem lw_p9 : lw_okq (⟨"StickVotes$Parser", "digits", "()I"⟩, 5) := ⟨⟨by decide +kernel, by decide +kernel⟩, List.mem_of_getElem? (i := 33) (by decide +kernel), List.mem_of_getElem? (i := 651) (by decide +kernel), List.mem_of_getElem? (i := 652) (by decide +kernel)⟩
theorem lw_p10 : lw_okq (⟨"StickVotes$Parser", "readShares", "()Z"⟩, 5) := ⟨⟨by decide +kernel, by decide +kernel⟩, List.mem_of_getElem? (i := 33) (by decide +kernel), List.mem_of_getElem? (i := 657) (by decide +kernel), List.mem_of_getElem? (i := 658) (by decide +kernel)⟩
theorem lw_p11 : lw_okq (⟨"StickVotes$Parser", "skipSemicolon", "()Z"⟩, 5) := ⟨⟨by decide +kernel, by decide +kernel⟩, List.mem_of_getElem? (i := 33) (by decide +kernel), List.mem_of_getElem? (i := 666) (by decide +kernel), List.mem_of_getElem? (i := 667) (by decide +kernel)⟩
theorem lw_p12 : lw_okq (⟨"StickVotes$Parser", "readBoats", "()Z"⟩, 5) := ⟨⟨by decide +kernel, by decide +kernel⟩, List.mem_of_getElem? (i := 33) (by decide +kernel), List.mem_of_getElem? (i := 670) (by decide +kernel), List.mem_of_getElem? (i := 671) (by decide +kernel)⟩
theorem lw_p13 : lw_okq (⟨"StickVotes$Parser", "isName", "()Z"⟩, 5) := ⟨⟨by decide +kernel, by decide +kernel⟩, List.mem_of_getElem? (i := 33) (by decide +kernel), List.mem_of_getElem? (i := 675) (by decide +kernel), List.mem_of_getElem? (i := 676) (by decide +kernel)⟩
theorem lw_p14 : lw_okq (⟨"StickVotes$Parser", "isAnyKeyword", "()Z"⟩, 5) := ⟨⟨by decide +kernel, by decide +kernel⟩, List.mem_of_getElem? (i := 33) (by decide +kernel), List.mem_of_getElem? (i := 679) (by decide +kernel), List.mem_of_getElem? (i := 680) (by decide +kernel)⟩
theorem lw_p15 : lw_okq (⟨"StickVotes$Parser", "letters", "()I"⟩, 5) := ⟨⟨by decide +kernel, by decide +kernel⟩, List.mem_of_getElem? (i := 33) (by decide +kernel), List.mem_of_getElem? (i := 685) (by decide +kernel), List.mem_of_getElem? (i := 686) (by decide +kernel)⟩
def lw_privs_1 : List (MethodName × Nat) := [(⟨"StickVotes$Village", "latestVote", "()I"⟩, 3), (⟨"StickVotes$Ring", "placeOf", "(I)I"⟩, 3), (⟨"StickVotes", "isPerson", "(I)Z"⟩, 10), (⟨"StickVotes$Parser", "advance", "()V"⟩, 5), (⟨"StickVotes$Parser", "readNumbers", "()Z"⟩, 5), (⟨"StickVotes$Parser", "skipKeyword", "(Ljava/lang/String;)Z"⟩, 5), (⟨"StickVotes$Parser", "isKeyword", "(Ljava/lang/String;)Z"⟩, 5), (⟨"StickVotes$Parser", "reads", "(Ljava/lang/String;)Z"⟩, 5), (⟨"StickVotes$Parser", "readNumber", "(III)Z"⟩, 5), (⟨"StickVotes$Parser", "digits", "()I"⟩, 5), (⟨"StickVotes$Parser", "readShares", "()Z"⟩, 5), (⟨"StickVotes$Parser", "skipSemicolon", "()Z"⟩, 5), (⟨"StickVotes$Parser", "readBoats", "()Z"⟩, 5), (⟨"StickVotes$Parser", "isName", "()Z"⟩, 5), (⟨"StickVotes$Parser", "isAnyKeyword", "()Z"⟩, 5), (⟨"StickVotes$Parser", "letters", "()I"⟩, 5)]
theorem lw_r1 : ∀ q ∈ lw_privs_1, lw_okq q := List.forall_mem_cons.mpr ⟨lw_p0, List.forall_mem_cons.mpr ⟨lw_p1, List.forall_mem_cons.mpr ⟨lw_p2, List.forall_mem_cons.mpr ⟨lw_p3, List.forall_mem_cons.mpr ⟨lw_p4, List.forall_mem_cons.mpr ⟨lw_p5, List.forall_mem_cons.mpr ⟨lw_p6, List.forall_mem_cons.mpr ⟨lw_p7, List.forall_mem_cons.mpr ⟨lw_p8, List.forall_mem_cons.mpr ⟨lw_p9, List.forall_mem_cons.mpr ⟨lw_p10, List.forall_mem_cons.mpr ⟨lw_p11, List.forall_mem_cons.mpr ⟨lw_p12, List.forall_mem_cons.mpr ⟨lw_p13, List.forall_mem_cons.mpr ⟨lw_p14, List.forall_mem_cons.mpr ⟨lw_p15, fun _ h => absurd h List.not_mem_nil⟩⟩⟩⟩⟩⟩⟩⟩⟩⟩⟩⟩⟩⟩⟩⟩
theorem lw_p16 : lw_okq (⟨"StickVotes$Parser", "readPeople", "()Z"⟩, 5) := ⟨⟨by decide +kernel, by decide +kernel⟩, List.mem_of_getElem? (i := 33) (by decide +kernel), List.mem_of_getElem? (i := 700) (by decide +kernel), List.mem_of_getElem? (i := 701) (by decide +kernel)⟩
theorem lw_p17 : lw_okq (⟨"StickVotes$Parser", "readPerson", "()Z"⟩, 5) := ⟨⟨by decide +kernel, by decide +kernel⟩, List.mem_of_getElem? (i := 33) (by decide +kernel), List.mem_of_getElem? (i := 704) (by decide +kernel), List.mem_of_getElem? (i := 705) (by decide +kernel)⟩
theorem lw_p18 : lw_okq (⟨"StickVotes$Sticks", "countAt", "(I)I"⟩, 6) := ⟨⟨by decide +kernel, by decide +kernel⟩, List.mem_of_getElem? (i := 139) (by decide +kernel), List.mem_of_getElem? (i := 772) (by decide +kernel), List.mem_of_getElem? (i := 773) (by decide +kernel)⟩
theorem lw_p19 : lw_okq (⟨"StickVotes$Village", "resultFor", "(I)I"⟩, 3) := ⟨⟨by decide +kernel, by decide +kernel⟩, List.mem_of_getElem? (i := 100) (by decide +kernel), List.mem_of_getElem? (i := 785) (by decide +kernel), List.mem_of_getElem? (i := 786) (by decide +kernel)⟩
theorem lw_p20 : lw_okq (⟨"StickVotes$Ballot", "countAll", "()I"⟩, 2) := ⟨⟨by decide +kernel, by decide +kernel⟩, List.mem_of_getElem? (i := 240) (by decide +kernel), List.mem_of_getElem? (i := 802) (by decide +kernel), List.mem_of_getElem? (i := 803) (by decide +kernel)⟩
theorem lw_p21 : lw_okq (⟨"StickVotes", "isBoat", "(I)Z"⟩, 10) := ⟨⟨by decide +kernel, by decide +kernel⟩, List.mem_of_getElem? (i := 25) (by decide +kernel), List.mem_of_getElem? (i := 1096) (by decide +kernel), List.mem_of_getElem? (i := 1097) (by decide +kernel)⟩
theorem lw_p22 : lw_okq (⟨"StickVotes", "refusalToLay", "(III)I"⟩, 10) := ⟨⟨by decide +kernel, by decide +kernel⟩, List.mem_of_getElem? (i := 25) (by decide +kernel), List.mem_of_getElem? (i := 1175) (by decide +kernel), List.mem_of_getElem? (i := 1176) (by decide +kernel)⟩
theorem lw_p23 : lw_okq (⟨"StickVotes$Village", "strike", "(I)V"⟩, 3) := ⟨⟨by decide +kernel, by decide +kernel⟩, List.mem_of_getElem? (i := 100) (by decide +kernel), List.mem_of_getElem? (i := 1237) (by decide +kernel), List.mem_of_getElem? (i := 1238) (by decide +kernel)⟩
theorem lw_p24 : lw_okq (⟨"StickVotes$Village", "correctResult", "(I)V"⟩, 3) := ⟨⟨by decide +kernel, by decide +kernel⟩, List.mem_of_getElem? (i := 100) (by decide +kernel), List.mem_of_getElem? (i := 1245) (by decide +kernel), List.mem_of_getElem? (i := 1246) (by decide +kernel)⟩
theorem lw_p25 : lw_okq (⟨"StickVotes$Village", "bringHomeTodays", "()I"⟩, 3) := ⟨⟨by decide +kernel, by decide +kernel⟩, List.mem_of_getElem? (i := 100) (by decide +kernel), List.mem_of_getElem? (i := 1297) (by decide +kernel), List.mem_of_getElem? (i := 1298) (by decide +kernel)⟩
theorem lw_p26 : lw_okq (⟨"StickVotes$Scribe", "writeStick", "(LStickVotes$Setup;LStickVotes$Sticks;I)V"⟩, 1) := ⟨⟨by decide +kernel, by decide +kernel⟩, List.mem_of_getElem? (i := 286) (by decide +kernel), List.mem_of_getElem? (i := 1424) (by decide +kernel), List.mem_of_getElem? (i := 1425) (by decide +kernel)⟩
theorem lw_p27 : lw_okq (⟨"StickVotes$Scribe", "writeNumber", "(I)V"⟩, 1) := ⟨⟨by decide +kernel, by decide +kernel⟩, List.mem_of_getElem? (i := 286) (by decide +kernel), List.mem_of_getElem? (i := 1444) (by decide +kernel), List.mem_of_getElem? (i := 1445) (by decide +kernel)⟩
theorem lw_p28 : lw_okq (⟨"StickVotes$Scribe", "writeNumbers", "(LStickVotes$Setup;)V"⟩, 1) := ⟨⟨by decide +kernel, by decide +kernel⟩, List.mem_of_getElem? (i := 286) (by decide +kernel), List.mem_of_getElem? (i := 1488) (by decide +kernel), List.mem_of_getElem? (i := 1489) (by decide +kernel)⟩
theorem lw_p29 : lw_okq (⟨"StickVotes$Scribe", "writePerson", "(LStickVotes$Setup;LStickVotes$Fleet;I)V"⟩, 1) := ⟨⟨by decide +kernel, by decide +kernel⟩, List.mem_of_getElem? (i := 286) (by decide +kernel), List.mem_of_getElem? (i := 1506) (by decide +kernel), List.mem_of_getElem? (i := 1507) (by decide +kernel)⟩
theorem lw_p30 : lw_okq (⟨"StickVotes$Village", "canBeLaid", "(I)Z"⟩, 3) := ⟨⟨by decide +kernel, by decide +kernel⟩, List.mem_of_getElem? (i := 100) (by decide +kernel), List.mem_of_getElem? (i := 1563) (by decide +kernel), List.mem_of_getElem? (i := 1564) (by decide +kernel)⟩
theorem lw_p31 : lw_okq (⟨"StickVotes$Village", "surplusBehind", "(I)I"⟩, 3) := ⟨⟨by decide +kernel, by decide +kernel⟩, List.mem_of_getElem? (i := 100) (by decide +kernel), List.mem_of_getElem? (i := 1581) (by decide +kernel), List.mem_of_getElem? (i := 1582) (by decide +kernel)⟩
def lw_privs_2 : List (MethodName × Nat) := [(⟨"StickVotes$Parser", "readPeople", "()Z"⟩, 5), (⟨"StickVotes$Parser", "readPerson", "()Z"⟩, 5), (⟨"StickVotes$Sticks", "countAt", "(I)I"⟩, 6), (⟨"StickVotes$Village", "resultFor", "(I)I"⟩, 3), (⟨"StickVotes$Ballot", "countAll", "()I"⟩, 2), (⟨"StickVotes", "isBoat", "(I)Z"⟩, 10), (⟨"StickVotes", "refusalToLay", "(III)I"⟩, 10), (⟨"StickVotes$Village", "strike", "(I)V"⟩, 3), (⟨"StickVotes$Village", "correctResult", "(I)V"⟩, 3), (⟨"StickVotes$Village", "bringHomeTodays", "()I"⟩, 3), (⟨"StickVotes$Scribe", "writeStick", "(LStickVotes$Setup;LStickVotes$Sticks;I)V"⟩, 1), (⟨"StickVotes$Scribe", "writeNumber", "(I)V"⟩, 1), (⟨"StickVotes$Scribe", "writeNumbers", "(LStickVotes$Setup;)V"⟩, 1), (⟨"StickVotes$Scribe", "writePerson", "(LStickVotes$Setup;LStickVotes$Fleet;I)V"⟩, 1), (⟨"StickVotes$Village", "canBeLaid", "(I)Z"⟩, 3), (⟨"StickVotes$Village", "surplusBehind", "(I)I"⟩, 3)]
theorem lw_r2 : ∀ q ∈ lw_privs_2, lw_okq q := List.forall_mem_cons.mpr ⟨lw_p16, List.forall_mem_cons.mpr ⟨lw_p17, List.forall_mem_cons.mpr ⟨lw_p18, List.forall_mem_cons.mpr ⟨lw_p19, List.forall_mem_cons.mpr ⟨lw_p20, List.forall_mem_cons.mpr ⟨lw_p21, List.forall_mem_cons.mpr ⟨lw_p22, List.forall_mem_cons.mpr ⟨lw_p23, List.forall_mem_cons.mpr ⟨lw_p24, List.forall_mem_cons.mpr ⟨lw_p25, List.forall_mem_cons.mpr ⟨lw_p26, List.forall_mem_cons.mpr ⟨lw_p27, List.forall_mem_cons.mpr ⟨lw_p28, List.forall_mem_cons.mpr ⟨lw_p29, List.forall_mem_cons.mpr ⟨lw_p30, List.forall_mem_cons.mpr ⟨lw_p31, fun _ h => absurd h List.not_mem_nil⟩⟩⟩⟩⟩⟩⟩⟩⟩⟩⟩⟩⟩⟩⟩⟩
theorem lw_p32 : lw_okq (⟨"StickVotes", "isSlot", "(I)Z"⟩, 10) := ⟨⟨by decide +kernel, by decide +kernel⟩, List.mem_of_getElem? (i := 25) (by decide +kernel), List.mem_of_getElem? (i := 1605) (by decide +kernel), List.mem_of_getElem? (i := 1606) (by decide +kernel)⟩
def lw_privs_3 : List (MethodName × Nat) := [(⟨"StickVotes", "isSlot", "(I)Z"⟩, 10)]
theorem lw_r3 : ∀ q ∈ lw_privs_3, lw_okq q := List.forall_mem_cons.mpr ⟨lw_p32, fun _ h => absurd h List.not_mem_nil⟩
def lw_privs : List (MethodName × Nat) := lw_privs_1 ++ (lw_privs_2 ++ (lw_privs_3))
/-- private methods of a class above a class that the tables say can be made -/
theorem sb_sel {C : String} {n : Nat} {x0 y : MethodName} {s : State} {args : Array Value} (hy : y.cls ≠ "java/lang/invoke/MethodHandle" ∧ y.cls ≠ "java/lang/invoke/VarHandle") (hins : (Cond.instantiable C n).before args s = true) (hpriv : (Cond.privateMethod y).before args s = true) (hinst : (Cond.instanceMethod y).before args s = true) (h0 : (Cond.selects C x0 x0).before args s = true) (hx : x0.cls = y.cls) : (Cond.selects C y y).before args s = true := by
  obtain ⟨c, k, hc, hk, -, -, -, -⟩ := Cond.instantiable_spec hins
  obtain ⟨mk, methM, hnamed, hmethM, -, -⟩ := Cond.instanceMethod_spec hinst
  obtain ⟨c2, r2, m2, q1, q2, q3, q4, kP, hkP, hkPi⟩ := Cond.selects_spec h0
  have hfound : s.methodFound? y.cls y.name y.desc = some mk := State.methodFound?_of_named hnamed hy
  have hcls : mk.cls = m2.cls := Option.some.inj ((findClass_of_methodNamed hnamed).symm.trans (by rw [← hx]; exact findClass_of_methodNamed q3))
  have hsel : selectMethod {} s.vm c mk = .method mk := selectMethod_private hmethM (Cond.privateMethod_at hpriv mk methM hnamed hmethM)
  simp only [Cond.before, Cond.holds, Cond.value, hc, hfound, hnamed, hsel, hcls, hkP]
  simp; exact hkPi
def sb_privs : List MethodName := [⟨"java/lang/AbstractStringBuilder", "ensureCapacityInternal", "(I)V"⟩, ⟨"java/lang/AbstractStringBuilder", "newCapacity", "(I)I"⟩, ⟨"java/lang/AbstractStringBuilder", "putStringAt", "(ILjava/lang/String;)V"⟩, ⟨"java/lang/AbstractStringBuilder", "inflateIfNeededFor", "(Ljava/lang/String;)V"⟩]
def sb_sels : List Cond := sb_privs.map fun q => Cond.selects "java/lang/StringBuilder" q q
theorem sb_words : ∀ q ∈ sb_privs, Cond.privateMethod q ∈ tables_1 ∧ Cond.instanceMethod q ∈ tables_1 ∧ (q.cls ≠ "java/lang/invoke/MethodHandle" ∧ q.cls ≠ "java/lang/invoke/VarHandle") ∧ q.cls = "java/lang/AbstractStringBuilder" := List.forall_mem_cons.mpr ⟨⟨List.mem_of_getElem? (i := 879) (by decide +kernel), List.mem_of_getElem? (i := 880) (by decide +kernel), ⟨by decide +kernel, by decide +kernel⟩, rfl⟩, List.forall_mem_cons.mpr ⟨⟨List.mem_of_getElem? (i := 883) (by decide +kernel), List.mem_of_getElem? (i := 884) (by decide +kernel), ⟨by decide +kernel, by decide +kernel⟩, rfl⟩, List.forall_mem_cons.mpr ⟨⟨List.mem_of_getElem? (i := 928) (by decide +kernel), List.mem_of_getElem? (i := 929) (by decide +kernel), ⟨by decide +kernel, by decide +kernel⟩, rfl⟩, List.forall_mem_cons.mpr ⟨⟨List.mem_of_getElem? (i := 932) (by decide +kernel), List.mem_of_getElem? (i := 933) (by decide +kernel), ⟨by decide +kernel, by decide +kernel⟩, rfl⟩, fun _ h => absurd h List.not_mem_nil⟩⟩⟩⟩
theorem sb_in : Cond.instantiable "java/lang/StringBuilder" 4 ∈ tables_1 := List.mem_of_getElem? (i := 841) (by decide +kernel)
theorem sb_l1 : Cond.selects "java/lang/StringBuilder" ⟨"java/lang/AbstractStringBuilder", "isLatin1", "()Z"⟩ ⟨"java/lang/AbstractStringBuilder", "isLatin1", "()Z"⟩ ∈ tables_1 := List.mem_of_getElem? (i := 909) (by decide +kernel)
def lw_tbl : List Cond := sb_sels ++ (k2_sels lw_privs ++ tables_1)
theorem sb_hts {args : Array Value} {s : State} (h : ∀ w ∈ k2_sels lw_privs ++ tables_1, w.before args s = true) : ∀ w ∈ lw_tbl, w.before args s = true := by
  intro w hw
  rcases List.mem_append.mp hw with hw | hw
  · obtain ⟨q, hq, rfl⟩ := List.mem_map.mp hw
    obtain ⟨h1, h2, h3, h4⟩ := sb_words q hq
    exact sb_sel h3 (h _ (List.mem_append_right _ sb_in)) (h _ (List.mem_append_right _ h1)) (h _ (List.mem_append_right _ h2)) (h _ (List.mem_append_right _ sb_l1)) h4.symm
  · exact h w hw
theorem lw_privs_ok : ∀ q ∈ lw_privs, lw_okq q := by
  show ∀ q ∈ lw_privs_1 ++ (lw_privs_2 ++ (lw_privs_3)), lw_okq q
  exact List.forall_mem_append.mpr ⟨lw_r1, List.forall_mem_append.mpr ⟨lw_r2, lw_r3⟩⟩
/-- the streams that the claim lets the run draw from -/
abbrev lw_cs : List Choice := [Jvm.Choice.named "NaN.bits"]
theorem lw_bits : nanBits ∈ lw_cs := by first | decide | exact List.mem_cons_self | simp [lw_cs, nanBits]
def RX0 : String := "StickVotes$Ballot"
def TX0 : u_T := fun k => match k with
  | 0 => ("StickVotes$Ballot", "basketOf", "[I", true)
  | _ => ("StickVotes$Ballot", "counts", "[I", true)
def tyX0 : Nat → FieldType := fun k => match k with
  | 0 => .array .int
  | _ => .array .int
theorem nmX0 : ∀ a, a < 2 → ∀ b, b < 2 → a ≠ b → (TX0 a).2.1 ≠ (TX0 b).2.1 := by decide +kernel
theorem tyX0_ok : ∀ k, k < 2 → parseFieldDescriptor (TX0 k).2.2.1 = some (tyX0 k) := by decide +kernel
abbrev cX0_init : ByteArray := prog_2_method_1_code
def yX0_init : MethodName := ⟨RX0, "<init>", "()V"⟩
abbrev cX0_takeFrom : ByteArray := prog_2_method_2_code
def yX0_takeFrom : MethodName := ⟨RX0, "takeFrom", "(LStickVotes$Sticks;)V"⟩
abbrev cX0_put : ByteArray := prog_2_method_3_code
def yX0_put : MethodName := ⟨RX0, "put", "(II)V"⟩
abbrev cX0_leaveOut : ByteArray := prog_2_method_4_code
def yX0_leaveOut : MethodName := ⟨RX0, "leaveOut", "(I)V"⟩
abbrev cX0_result : ByteArray := prog_2_method_5_code
def yX0_result : MethodName := ⟨RX0, "result", "(I)I"⟩
abbrev cX0_countAll : ByteArray := prog_2_method_6_code
def yX0_countAll : MethodName := ⟨RX0, "countAll", "()I"⟩
def RX1 : String := "StickVotes$Bytes"
def TX1 : u_T := fun k => match k with
  | 0 => ("StickVotes$Bytes", "cells", "[B", true)
  | _ => ("StickVotes$Bytes", "length", "I", false)
def tyX1 : Nat → FieldType := fun k => match k with
  | 0 => .array .byte
  | _ => .int
theorem nmX1 : ∀ a, a < 2 → ∀ b, b < 2 → a ≠ b → (TX1 a).2.1 ≠ (TX1 b).2.1 := by decide +kernel
theorem tyX1_ok : ∀ k, k < 2 → parseFieldDescriptor (TX1 k).2.2.1 = some (tyX1 k) := by decide +kernel
abbrev cX1_init : ByteArray := prog_3_method_1_code
def yX1_init : MethodName := ⟨RX1, "<init>", "(I)V"⟩
abbrev cX1_length : ByteArray := prog_3_method_2_code
def yX1_length : MethodName := ⟨RX1, "length", "()I"⟩
abbrev cX1_at : ByteArray := prog_3_method_3_code
def yX1_at : MethodName := ⟨RX1, "at", "(I)I"⟩
abbrev cX1_cutTo : ByteArray := prog_3_method_4_code
def yX1_cutTo : MethodName := ⟨RX1, "cutTo", "(I)V"⟩
abbrev cX1_add : ByteArray := prog_3_method_5_code
def yX1_add : MethodName := ⟨RX1, "add", "(I)V"⟩
abbrev cX1_addWhole : ByteArray := prog_3_method_6_code
def yX1_addWhole : MethodName := ⟨RX1, "addWhole", "(I)V"⟩
abbrev cX1_addText : ByteArray := prog_3_method_7_code
def yX1_addText : MethodName := ⟨RX1, "addText", "(Ljava/lang/String;)V"⟩
abbrev cX1_addName : ByteArray := prog_3_method_8_code
def yX1_addName : MethodName := ⟨RX1, "addName", "(I)V"⟩
abbrev cX1_addNumber : ByteArray := prog_3_method_9_code
def yX1_addNumber : MethodName := ⟨RX1, "addNumber", "(I)V"⟩
def RX2 : String := "StickVotes$Fleet"
def TX2 : u_T := fun k => match k with
  | 0 => ("StickVotes$Fleet", "boatOf", "[I", true)
  | 1 => ("StickVotes$Fleet", "atSea", "[I", true)
  | 2 => ("StickVotes$Fleet", "faults", "[I", true)
  | 3 => ("StickVotes$Fleet", "daysAtSea", "[I", true)
  | 4 => ("StickVotes$Fleet", "back", "[I", true)
  | _ => ("StickVotes$Fleet", "sailed", "[I", true)
def tyX2 : Nat → FieldType := fun k => match k with
  | 0 => .array .int
  | 1 => .array .int
  | 2 => .array .int
  | 3 => .array .int
  | 4 => .array .int
  | _ => .array .int
theorem nmX2 : ∀ a, a < 6 → ∀ b, b < 6 → a ≠ b → (TX2 a).2.1 ≠ (TX2 b).2.1 := by decide +kernel
theorem tyX2_ok : ∀ k, k < 6 → parseFieldDescriptor (TX2 k).2.2.1 = some (tyX2 k) := by decide +kernel
abbrev cX2_init : ByteArray := prog_4_method_1_code
def yX2_init : MethodName := ⟨RX2, "<init>", "()V"⟩
abbrev cX2_begin : ByteArray := prog_4_method_2_code
def yX2_begin : MethodName := ⟨RX2, "begin", "(LStickVotes$Setup;)V"⟩
abbrev cX2_copyFrom : ByteArray := prog_4_method_3_code
def yX2_copyFrom : MethodName := ⟨RX2, "copyFrom", "(LStickVotes$Fleet;)V"⟩
abbrev cX2_boatOf : ByteArray := prog_4_method_4_code
def yX2_boatOf : MethodName := ⟨RX2, "boatOf", "(I)I"⟩
abbrev cX2_isAtSea : ByteArray := prog_4_method_5_code
def yX2_isAtSea : MethodName := ⟨RX2, "isAtSea", "(I)Z"⟩
abbrev cX2_faultsOf : ByteArray := prog_4_method_6_code
def yX2_faultsOf : MethodName := ⟨RX2, "faultsOf", "(I)I"⟩
abbrev cX2_daysAtSeaOf : ByteArray := prog_4_method_7_code
def yX2_daysAtSeaOf : MethodName := ⟨RX2, "daysAtSeaOf", "(I)I"⟩
abbrev cX2_isOut : ByteArray := prog_4_method_8_code
def yX2_isOut : MethodName := ⟨RX2, "isOut", "(I)Z"⟩
abbrev cX2_backOf : ByteArray := prog_4_method_9_code
def yX2_backOf : MethodName := ⟨RX2, "backOf", "(I)I"⟩
abbrev cX2_sailedOf : ByteArray := prog_4_method_10_code
def yX2_sailedOf : MethodName := ⟨RX2, "sailedOf", "(I)I"⟩
abbrev cX2_assign : ByteArray := prog_4_method_11_code
def yX2_assign : MethodName := ⟨RX2, "assign", "(II)V"⟩
abbrev cX2_addFault : ByteArray := prog_4_method_12_code
def yX2_addFault : MethodName := ⟨RX2, "addFault", "(I)V"⟩
abbrev cX2_moveBack : ByteArray := prog_4_method_13_code
def yX2_moveBack : MethodName := ⟨RX2, "moveBack", "(II)V"⟩
abbrev cX2_leave : ByteArray := prog_4_method_14_code
def yX2_leave : MethodName := ⟨RX2, "leave", "(II)I"⟩
abbrev cX2_arrive : ByteArray := prog_4_method_15_code
def yX2_arrive : MethodName := ⟨RX2, "arrive", "(I)I"⟩
abbrev cX2_countDayAtSea : ByteArray := prog_4_method_16_code
def yX2_countDayAtSea : MethodName := ⟨RX2, "countDayAtSea", "()V"⟩
abbrev cX2_aboard : ByteArray := prog_4_method_17_code
def yX2_aboard : MethodName := ⟨RX2, "aboard", "(I)I"⟩
abbrev cX2_belongingTo : ByteArray := prog_4_method_18_code
def yX2_belongingTo : MethodName := ⟨RX2, "belongingTo", "(I)I"⟩
abbrev cX2_boatsOut : ByteArray := prog_4_method_19_code
def yX2_boatsOut : MethodName := ⟨RX2, "boatsOut", "()I"⟩
abbrev cX2_boatsOutOn : ByteArray := prog_4_method_20_code
def yX2_boatsOutOn : MethodName := ⟨RX2, "boatsOutOn", "(I)I"⟩
abbrev cX2_peopleAtSea : ByteArray := prog_4_method_21_code
def yX2_peopleAtSea : MethodName := ⟨RX2, "peopleAtSea", "()I"⟩
abbrev cX2_peopleAtSeaOn : ByteArray := prog_4_method_22_code
def yX2_peopleAtSeaOn : MethodName := ⟨RX2, "peopleAtSeaOn", "(I)I"⟩
abbrev cX2_daysAtSeaOfAll : ByteArray := prog_4_method_23_code
def yX2_daysAtSeaOfAll : MethodName := ⟨RX2, "daysAtSeaOfAll", "()J"⟩
def RX3 : String := "StickVotes$History"
def TX3 : u_T := fun k => match k with
  | 0 => ("StickVotes$History", "states", "[LStickVotes$State;", true)
  | 1 => ("StickVotes$History", "steps", "I", false)
  | _ => ("StickVotes$History", "next", "I", false)
def tyX3 : Nat → FieldType := fun k => match k with
  | 0 => .array (.object "StickVotes$State")
  | 1 => .int
  | _ => .int
theorem nmX3 : ∀ a, a < 3 → ∀ b, b < 3 → a ≠ b → (TX3 a).2.1 ≠ (TX3 b).2.1 := by decide +kernel
theorem tyX3_ok : ∀ k, k < 3 → parseFieldDescriptor (TX3 k).2.2.1 = some (tyX3 k) := by decide +kernel
abbrev cX3_init : ByteArray := prog_5_method_1_code
def yX3_init : MethodName := ⟨RX3, "<init>", "()V"⟩
abbrev cX3_steps : ByteArray := prog_5_method_2_code
def yX3_steps : MethodName := ⟨RX3, "steps", "()I"⟩
abbrev cX3_forget : ByteArray := prog_5_method_3_code
def yX3_forget : MethodName := ⟨RX3, "forget", "()V"⟩
abbrev cX3_remember : ByteArray := prog_5_method_4_code
def yX3_remember : MethodName := ⟨RX3, "remember", "(LStickVotes$State;)V"⟩
abbrev cX3_bringBack : ByteArray := prog_5_method_5_code
def yX3_bringBack : MethodName := ⟨RX3, "bringBack", "(LStickVotes$State;)Z"⟩
def RX4 : String := "StickVotes$Parser"
def TX4 : u_T := fun k => match k with
  | 0 => ("StickVotes$Parser", "tape", "LStickVotes$Bytes;", true)
  | 1 => ("StickVotes$Parser", "draft", "LStickVotes$Setup;", true)
  | 2 => ("StickVotes$Parser", "kind", "I", false)
  | 3 => ("StickVotes$Parser", "start", "I", false)
  | _ => ("StickVotes$Parser", "end", "I", false)
def tyX4 : Nat → FieldType := fun k => match k with
  | 0 => .object "StickVotes$Bytes"
  | 1 => .object "StickVotes$Setup"
  | 2 => .int
  | 3 => .int
  | _ => .int
theorem nmX4 : ∀ a, a < 5 → ∀ b, b < 5 → a ≠ b → (TX4 a).2.1 ≠ (TX4 b).2.1 := by decide +kernel
theorem tyX4_ok : ∀ k, k < 5 → parseFieldDescriptor (TX4 k).2.2.1 = some (tyX4 k) := by decide +kernel
abbrev cX4_init : ByteArray := prog_6_method_1_code
def yX4_init : MethodName := ⟨RX4, "<init>", "()V"⟩
abbrev cX4_readTape : ByteArray := prog_6_method_2_code
def yX4_readTape : MethodName := ⟨RX4, "readTape", "()I"⟩
abbrev cX4_readNumbers : ByteArray := prog_6_method_3_code
def yX4_readNumbers : MethodName := ⟨RX4, "readNumbers", "()Z"⟩
abbrev cX4_readShares : ByteArray := prog_6_method_4_code
def yX4_readShares : MethodName := ⟨RX4, "readShares", "()Z"⟩
abbrev cX4_readBoats : ByteArray := prog_6_method_5_code
def yX4_readBoats : MethodName := ⟨RX4, "readBoats", "()Z"⟩
abbrev cX4_readPeople : ByteArray := prog_6_method_6_code
def yX4_readPeople : MethodName := ⟨RX4, "readPeople", "()Z"⟩
abbrev cX4_readPerson : ByteArray := prog_6_method_7_code
def yX4_readPerson : MethodName := ⟨RX4, "readPerson", "()Z"⟩
abbrev cX4_readNumber : ByteArray := prog_6_method_8_code
def yX4_readNumber : MethodName := ⟨RX4, "readNumber", "(III)Z"⟩
abbrev cX4_skipKeyword : ByteArray := prog_6_method_9_code
def yX4_skipKeyword : MethodName := ⟨RX4, "skipKeyword", "(Ljava/lang/String;)Z"⟩
abbrev cX4_skipSemicolon : ByteArray := prog_6_method_10_code
def yX4_skipSemicolon : MethodName := ⟨RX4, "skipSemicolon", "()Z"⟩
abbrev cX4_isKeyword : ByteArray := prog_6_method_11_code
def yX4_isKeyword : MethodName := ⟨RX4, "isKeyword", "(Ljava/lang/String;)Z"⟩
abbrev cX4_isName : ByteArray := prog_6_method_12_code
def yX4_isName : MethodName := ⟨RX4, "isName", "()Z"⟩
abbrev cX4_advance : ByteArray := prog_6_method_13_code
def yX4_advance : MethodName := ⟨RX4, "advance", "()V"⟩
abbrev cX4_isAnyKeyword : ByteArray := prog_6_method_14_code
def yX4_isAnyKeyword : MethodName := ⟨RX4, "isAnyKeyword", "()Z"⟩
abbrev cX4_reads : ByteArray := prog_6_method_15_code
def yX4_reads : MethodName := ⟨RX4, "reads", "(Ljava/lang/String;)Z"⟩
abbrev cX4_letters : ByteArray := prog_6_method_16_code
def yX4_letters : MethodName := ⟨RX4, "letters", "()I"⟩
abbrev cX4_digits : ByteArray := prog_6_method_17_code
def yX4_digits : MethodName := ⟨RX4, "digits", "()I"⟩
abbrev cX4_isSpace : ByteArray := prog_6_method_18_code
def yX4_isSpace : MethodName := ⟨RX4, "isSpace", "(I)Z"⟩
abbrev cX4_isLetter : ByteArray := prog_6_method_19_code
def yX4_isLetter : MethodName := ⟨RX4, "isLetter", "(I)Z"⟩
abbrev cX4_isDigit : ByteArray := prog_6_method_20_code
def yX4_isDigit : MethodName := ⟨RX4, "isDigit", "(I)Z"⟩
def RX5 : String := "StickVotes$Ring"
def TX5 : u_T := fun k => match k with
  | 0 => ("StickVotes$Ring", "rows", "I", true)
  | 1 => ("StickVotes$Ring", "cells", "[I", true)
  | _ => ("StickVotes$Ring", "added", "I", false)
def tyX5 : Nat → FieldType := fun k => match k with
  | 0 => .int
  | 1 => .array .int
  | _ => .int
theorem nmX5 : ∀ a, a < 3 → ∀ b, b < 3 → a ≠ b → (TX5 a).2.1 ≠ (TX5 b).2.1 := by decide +kernel
theorem tyX5_ok : ∀ k, k < 3 → parseFieldDescriptor (TX5 k).2.2.1 = some (tyX5 k) := by decide +kernel
abbrev cX5_init : ByteArray := prog_7_method_1_code
def yX5_init : MethodName := ⟨RX5, "<init>", "(I)V"⟩
abbrev cX5_clear : ByteArray := prog_7_method_2_code
def yX5_clear : MethodName := ⟨RX5, "clear", "()V"⟩
abbrev cX5_copyFrom : ByteArray := prog_7_method_3_code
def yX5_copyFrom : MethodName := ⟨RX5, "copyFrom", "(LStickVotes$Ring;)V"⟩
abbrev cX5_size : ByteArray := prog_7_method_4_code
def yX5_size : MethodName := ⟨RX5, "size", "()I"⟩
abbrev cX5_oldest : ByteArray := prog_7_method_5_code
def yX5_oldest : MethodName := ⟨RX5, "oldest", "()I"⟩
abbrev cX5_add : ByteArray := prog_7_method_6_code
def yX5_add : MethodName := ⟨RX5, "add", "(IIII)V"⟩
abbrev cX5_has : ByteArray := prog_7_method_7_code
def yX5_has : MethodName := ⟨RX5, "has", "(I)Z"⟩
abbrev cX5_part : ByteArray := prog_7_method_8_code
def yX5_part : MethodName := ⟨RX5, "part", "(II)I"⟩
abbrev cX5_setPart : ByteArray := prog_7_method_9_code
def yX5_setPart : MethodName := ⟨RX5, "setPart", "(III)V"⟩
abbrev cX5_placeOf : ByteArray := prog_7_method_10_code
def yX5_placeOf : MethodName := ⟨RX5, "placeOf", "(I)I"⟩
def RX6 : String := "StickVotes$Scribe"
def TX6 : u_T := fun k => match k with
  | _ => ("StickVotes$Scribe", "text", "LStickVotes$Bytes;", true)
def tyX6 : Nat → FieldType := fun k => match k with
  | _ => .object "StickVotes$Bytes"
theorem nmX6 : ∀ a, a < 1 → ∀ b, b < 1 → a ≠ b → (TX6 a).2.1 ≠ (TX6 b).2.1 := by decide +kernel
theorem tyX6_ok : ∀ k, k < 1 → parseFieldDescriptor (TX6 k).2.2.1 = some (tyX6 k) := by decide +kernel
abbrev cX6_init : ByteArray := prog_8_method_1_code
def yX6_init : MethodName := ⟨RX6, "<init>", "()V"⟩
abbrev cX6_writeView : ByteArray := prog_8_method_2_code
def yX6_writeView : MethodName := ⟨RX6, "writeView", "(LStickVotes$Setup;LStickVotes$State;)LStickVotes$Bytes;"⟩
abbrev cX6_writeStick : ByteArray := prog_8_method_3_code
def yX6_writeStick : MethodName := ⟨RX6, "writeStick", "(LStickVotes$Setup;LStickVotes$Sticks;I)V"⟩
abbrev cX6_placeWord : ByteArray := prog_8_method_4_code
def yX6_placeWord : MethodName := ⟨RX6, "placeWord", "(I)Ljava/lang/String;"⟩
abbrev cX6_writeStory : ByteArray := prog_8_method_5_code
def yX6_writeStory : MethodName := ⟨RX6, "writeStory", "(LStickVotes$Ring;)LStickVotes$Bytes;"⟩
abbrev cX6_kindWord : ByteArray := prog_8_method_6_code
def yX6_kindWord : MethodName := ⟨RX6, "kindWord", "(I)Ljava/lang/String;"⟩
abbrev cX6_writeSetup : ByteArray := prog_8_method_7_code
def yX6_writeSetup : MethodName := ⟨RX6, "writeSetup", "(LStickVotes$Setup;LStickVotes$Fleet;)LStickVotes$Bytes;"⟩
abbrev cX6_writeNumbers : ByteArray := prog_8_method_8_code
def yX6_writeNumbers : MethodName := ⟨RX6, "writeNumbers", "(LStickVotes$Setup;)V"⟩
abbrev cX6_writePerson : ByteArray := prog_8_method_9_code
def yX6_writePerson : MethodName := ⟨RX6, "writePerson", "(LStickVotes$Setup;LStickVotes$Fleet;I)V"⟩
abbrev cX6_writeNumber : ByteArray := prog_8_method_10_code
def yX6_writeNumber : MethodName := ⟨RX6, "writeNumber", "(I)V"⟩
def RX7 : String := "StickVotes$Setup"
def TX7 : u_T := fun k => match k with
  | 0 => ("StickVotes$Setup", "numbers", "[I", true)
  | 1 => ("StickVotes$Setup", "boatNames", "[I", true)
  | 2 => ("StickVotes$Setup", "personNames", "[I", true)
  | 3 => ("StickVotes$Setup", "firstBoats", "[I", true)
  | 4 => ("StickVotes$Setup", "boats", "I", false)
  | _ => ("StickVotes$Setup", "people", "I", false)
def tyX7 : Nat → FieldType := fun k => match k with
  | 0 => .array .int
  | 1 => .array .int
  | 2 => .array .int
  | 3 => .array .int
  | 4 => .int
  | _ => .int
theorem nmX7 : ∀ a, a < 6 → ∀ b, b < 6 → a ≠ b → (TX7 a).2.1 ≠ (TX7 b).2.1 := by decide +kernel
theorem tyX7_ok : ∀ k, k < 6 → parseFieldDescriptor (TX7 k).2.2.1 = some (tyX7 k) := by decide +kernel
abbrev cX7_init : ByteArray := prog_9_method_1_code
def yX7_init : MethodName := ⟨RX7, "<init>", "()V"⟩
abbrev cX7_makeFirstVillage : ByteArray := prog_9_method_2_code
def yX7_makeFirstVillage : MethodName := ⟨RX7, "makeFirstVillage", "()V"⟩
abbrev cX7_clear : ByteArray := prog_9_method_3_code
def yX7_clear : MethodName := ⟨RX7, "clear", "()V"⟩
abbrev cX7_copyFrom : ByteArray := prog_9_method_4_code
def yX7_copyFrom : MethodName := ⟨RX7, "copyFrom", "(LStickVotes$Setup;)V"⟩
abbrev cX7_boats : ByteArray := prog_9_method_5_code
def yX7_boats : MethodName := ⟨RX7, "boats", "()I"⟩
abbrev cX7_people : ByteArray := prog_9_method_6_code
def yX7_people : MethodName := ⟨RX7, "people", "()I"⟩
abbrev cX7_numberOf : ByteArray := prog_9_method_7_code
def yX7_numberOf : MethodName := ⟨RX7, "numberOf", "(I)I"⟩
abbrev cX7_setNumber : ByteArray := prog_9_method_8_code
def yX7_setNumber : MethodName := ⟨RX7, "setNumber", "(II)V"⟩
abbrev cX7_addBoat : ByteArray := prog_9_method_9_code
def yX7_addBoat : MethodName := ⟨RX7, "addBoat", "(I)V"⟩
abbrev cX7_addPerson : ByteArray := prog_9_method_10_code
def yX7_addPerson : MethodName := ⟨RX7, "addPerson", "(II)V"⟩
abbrev cX7_boatName : ByteArray := prog_9_method_11_code
def yX7_boatName : MethodName := ⟨RX7, "boatName", "(I)I"⟩
abbrev cX7_personName : ByteArray := prog_9_method_12_code
def yX7_personName : MethodName := ⟨RX7, "personName", "(I)I"⟩
abbrev cX7_firstBoatOf : ByteArray := prog_9_method_13_code
def yX7_firstBoatOf : MethodName := ⟨RX7, "firstBoatOf", "(I)I"⟩
abbrev cX7_boatNamed : ByteArray := prog_9_method_14_code
def yX7_boatNamed : MethodName := ⟨RX7, "boatNamed", "(I)I"⟩
abbrev cX7_personNamed : ByteArray := prog_9_method_15_code
def yX7_personNamed : MethodName := ⟨RX7, "personNamed", "(I)I"⟩
abbrev cX7_find : ByteArray := prog_9_method_16_code
def yX7_find : MethodName := ⟨RX7, "find", "([III)I"⟩
def RX8 : String := "StickVotes$State"
def TX8 : u_T := fun k => match k with
  | 0 => ("StickVotes$State", "fleet", "LStickVotes$Fleet;", true)
  | 1 => ("StickVotes$State", "sticks", "LStickVotes$Sticks;", true)
  | 2 => ("StickVotes$State", "past", "LStickVotes$Ring;", true)
  | 3 => ("StickVotes$State", "log", "LStickVotes$Ring;", true)
  | 4 => ("StickVotes$State", "day", "I", false)
  | 5 => ("StickVotes$State", "votes", "I", false)
  | 6 => ("StickVotes$State", "isOpen", "Z", false)
  | 7 => ("StickVotes$State", "baskets", "I", false)
  | 8 => ("StickVotes$State", "lays", "I", false)
  | 9 => ("StickVotes$State", "recounts", "I", false)
  | 10 => ("StickVotes$State", "fixedNeed", "I", false)
  | _ => ("StickVotes$State", "closedOn", "I", false)
def tyX8 : Nat → FieldType := fun k => match k with
  | 0 => .object "StickVotes$Fleet"
  | 1 => .object "StickVotes$Sticks"
  | 2 => .object "StickVotes$Ring"
  | 3 => .object "StickVotes$Ring"
  | 4 => .int
  | 5 => .int
  | 6 => .boolean
  | 7 => .int
  | 8 => .int
  | 9 => .int
  | 10 => .int
  | _ => .int
theorem nmX8 : ∀ a, a < 12 → ∀ b, b < 12 → a ≠ b → (TX8 a).2.1 ≠ (TX8 b).2.1 := by decide +kernel
theorem tyX8_ok : ∀ k, k < 12 → parseFieldDescriptor (TX8 k).2.2.1 = some (tyX8 k) := by decide +kernel
abbrev cX8_init : ByteArray := prog_10_method_1_code
def yX8_init : MethodName := ⟨RX8, "<init>", "()V"⟩
abbrev cX8_begin : ByteArray := prog_10_method_2_code
def yX8_begin : MethodName := ⟨RX8, "begin", "(LStickVotes$Setup;)V"⟩
abbrev cX8_beginVote : ByteArray := prog_10_method_3_code
def yX8_beginVote : MethodName := ⟨RX8, "beginVote", "(I)V"⟩
abbrev cX8_copyFrom : ByteArray := prog_10_method_4_code
def yX8_copyFrom : MethodName := ⟨RX8, "copyFrom", "(LStickVotes$State;)V"⟩
def RX9 : String := "StickVotes$Sticks"
def TX9 : u_T := fun k => match k with
  | 0 => ("StickVotes$Sticks", "place", "[I", true)
  | 1 => ("StickVotes$Sticks", "carrier", "[I", true)
  | 2 => ("StickVotes$Sticks", "bound", "[I", true)
  | 3 => ("StickVotes$Sticks", "basket", "[I", true)
  | 4 => ("StickVotes$Sticks", "day", "[I", true)
  | _ => ("StickVotes$Sticks", "reason", "[I", true)
def tyX9 : Nat → FieldType := fun k => match k with
  | 0 => .array .int
  | 1 => .array .int
  | 2 => .array .int
  | 3 => .array .int
  | 4 => .array .int
  | _ => .array .int
theorem nmX9 : ∀ a, a < 6 → ∀ b, b < 6 → a ≠ b → (TX9 a).2.1 ≠ (TX9 b).2.1 := by decide +kernel
theorem tyX9_ok : ∀ k, k < 6 → parseFieldDescriptor (TX9 k).2.2.1 = some (tyX9 k) := by decide +kernel
abbrev cX9_init : ByteArray := prog_11_method_1_code
def yX9_init : MethodName := ⟨RX9, "<init>", "()V"⟩
abbrev cX9_begin : ByteArray := prog_11_method_2_code
def yX9_begin : MethodName := ⟨RX9, "begin", "()V"⟩
abbrev cX9_copyFrom : ByteArray := prog_11_method_3_code
def yX9_copyFrom : MethodName := ⟨RX9, "copyFrom", "(LStickVotes$Sticks;)V"⟩
abbrev cX9_placeOf : ByteArray := prog_11_method_4_code
def yX9_placeOf : MethodName := ⟨RX9, "placeOf", "(I)I"⟩
abbrev cX9_carrierOf : ByteArray := prog_11_method_5_code
def yX9_carrierOf : MethodName := ⟨RX9, "carrierOf", "(I)I"⟩
abbrev cX9_boundTo : ByteArray := prog_11_method_6_code
def yX9_boundTo : MethodName := ⟨RX9, "boundTo", "(I)I"⟩
abbrev cX9_basketOf : ByteArray := prog_11_method_7_code
def yX9_basketOf : MethodName := ⟨RX9, "basketOf", "(I)I"⟩
abbrev cX9_dayOf : ByteArray := prog_11_method_8_code
def yX9_dayOf : MethodName := ⟨RX9, "dayOf", "(I)I"⟩
abbrev cX9_reasonOf : ByteArray := prog_11_method_9_code
def yX9_reasonOf : MethodName := ⟨RX9, "reasonOf", "(I)I"⟩
abbrev cX9_isHadBy : ByteArray := prog_11_method_10_code
def yX9_isHadBy : MethodName := ⟨RX9, "isHadBy", "(II)Z"⟩
abbrev cX9_isWrong : ByteArray := prog_11_method_11_code
def yX9_isWrong : MethodName := ⟨RX9, "isWrong", "(I)Z"⟩
abbrev cX9_handTo : ByteArray := prog_11_method_12_code
def yX9_handTo : MethodName := ⟨RX9, "handTo", "(III)V"⟩
abbrev cX9_handBack : ByteArray := prog_11_method_13_code
def yX9_handBack : MethodName := ⟨RX9, "handBack", "(I)V"⟩
abbrev cX9_putInto : ByteArray := prog_11_method_14_code
def yX9_putInto : MethodName := ⟨RX9, "putInto", "(IIII)V"⟩
abbrev cX9_strike : ByteArray := prog_11_method_15_code
def yX9_strike : MethodName := ⟨RX9, "strike", "(I)V"⟩
abbrev cX9_takeOut : ByteArray := prog_11_method_16_code
def yX9_takeOut : MethodName := ⟨RX9, "takeOut", "()V"⟩
abbrev cX9_countIn : ByteArray := prog_11_method_17_code
def yX9_countIn : MethodName := ⟨RX9, "countIn", "(I)I"⟩
abbrev cX9_turnout : ByteArray := prog_11_method_18_code
def yX9_turnout : MethodName := ⟨RX9, "turnout", "()I"⟩
abbrev cX9_struckOnes : ByteArray := prog_11_method_19_code
def yX9_struckOnes : MethodName := ⟨RX9, "struckOnes", "()I"⟩
abbrev cX9_countAt : ByteArray := prog_11_method_20_code
def yX9_countAt : MethodName := ⟨RX9, "countAt", "(I)I"⟩
abbrev cX9_laidForOthers : ByteArray := prog_11_method_21_code
def yX9_laidForOthers : MethodName := ⟨RX9, "laidForOthers", "(I)I"⟩
abbrev cX9_maskIn : ByteArray := prog_11_method_22_code
def yX9_maskIn : MethodName := ⟨RX9, "maskIn", "(I)I"⟩
abbrev cX9_carriedBy : ByteArray := prog_11_method_23_code
def yX9_carriedBy : MethodName := ⟨RX9, "carriedBy", "(I)I"⟩
abbrev cX9_wrongMask : ByteArray := prog_11_method_24_code
def yX9_wrongMask : MethodName := ⟨RX9, "wrongMask", "()I"⟩
def RX10 : String := "StickVotes$Village"
def TX10 : u_T := fun k => match k with
  | 0 => ("StickVotes$Village", "setup", "LStickVotes$Setup;", true)
  | 1 => ("StickVotes$Village", "now", "LStickVotes$State;", true)
  | _ => ("StickVotes$Village", "ballot", "LStickVotes$Ballot;", true)
def tyX10 : Nat → FieldType := fun k => match k with
  | 0 => .object "StickVotes$Setup"
  | 1 => .object "StickVotes$State"
  | _ => .object "StickVotes$Ballot"
theorem nmX10 : ∀ a, a < 3 → ∀ b, b < 3 → a ≠ b → (TX10 a).2.1 ≠ (TX10 b).2.1 := by decide +kernel
theorem tyX10_ok : ∀ k, k < 3 → parseFieldDescriptor (TX10 k).2.2.1 = some (tyX10 k) := by decide +kernel
abbrev cX10_init : ByteArray := prog_12_method_1_code
def yX10_init : MethodName := ⟨RX10, "<init>", "()V"⟩
abbrev cX10_beginTheFirstOne : ByteArray := prog_12_method_2_code
def yX10_beginTheFirstOne : MethodName := ⟨RX10, "beginTheFirstOne", "()V"⟩
abbrev cX10_beginAnew : ByteArray := prog_12_method_3_code
def yX10_beginAnew : MethodName := ⟨RX10, "beginAnew", "(LStickVotes$Setup;)V"⟩
abbrev cX10_setOut : ByteArray := prog_12_method_4_code
def yX10_setOut : MethodName := ⟨RX10, "setOut", "(II)I"⟩
abbrev cX10_bringHome : ByteArray := prog_12_method_5_code
def yX10_bringHome : MethodName := ⟨RX10, "bringHome", "(I)I"⟩
abbrev cX10_letDaysPass : ByteArray := prog_12_method_6_code
def yX10_letDaysPass : MethodName := ⟨RX10, "letDaysPass", "(I)I"⟩
abbrev cX10_bringHomeTodays : ByteArray := prog_12_method_7_code
def yX10_bringHomeTodays : MethodName := ⟨RX10, "bringHomeTodays", "()I"⟩
abbrev cX10_beginVote : ByteArray := prog_12_method_8_code
def yX10_beginVote : MethodName := ⟨RX10, "beginVote", "(I)I"⟩
abbrev cX10_putIntoBasket : ByteArray := prog_12_method_9_code
def yX10_putIntoBasket : MethodName := ⟨RX10, "putIntoBasket", "(III)I"⟩
abbrev cX10_judge : ByteArray := prog_12_method_10_code
def yX10_judge : MethodName := ⟨RX10, "judge", "(II)I"⟩
abbrev cX10_strikeAllWrong : ByteArray := prog_12_method_11_code
def yX10_strikeAllWrong : MethodName := ⟨RX10, "strikeAllWrong", "()I"⟩
abbrev cX10_strike : ByteArray := prog_12_method_12_code
def yX10_strike : MethodName := ⟨RX10, "strike", "(I)V"⟩
abbrev cX10_correctResult : ByteArray := prog_12_method_13_code
def yX10_correctResult : MethodName := ⟨RX10, "correctResult", "(I)V"⟩
abbrev cX10_endVote : ByteArray := prog_12_method_14_code
def yX10_endVote : MethodName := ⟨RX10, "endVote", "()I"⟩
abbrev cX10_inLog : ByteArray := prog_12_method_15_code
def yX10_inLog : MethodName := ⟨RX10, "inLog", "(I)I"⟩
abbrev cX10_latestVote : ByteArray := prog_12_method_16_code
def yX10_latestVote : MethodName := ⟨RX10, "latestVote", "()I"⟩
abbrev cX10_isVoteOpen : ByteArray := prog_12_method_17_code
def yX10_isVoteOpen : MethodName := ⟨RX10, "isVoteOpen", "()Z"⟩
abbrev cX10_stateOfVote : ByteArray := prog_12_method_18_code
def yX10_stateOfVote : MethodName := ⟨RX10, "stateOfVote", "()I"⟩
abbrev cX10_seasonOn : ByteArray := prog_12_method_19_code
def yX10_seasonOn : MethodName := ⟨RX10, "seasonOn", "(I)I"⟩
abbrev cX10_homeDayOf : ByteArray := prog_12_method_20_code
def yX10_homeDayOf : MethodName := ⟨RX10, "homeDayOf", "(I)I"⟩
abbrev cX10_needOf : ByteArray := prog_12_method_21_code
def yX10_needOf : MethodName := ⟨RX10, "needOf", "(II)I"⟩
abbrev cX10_needBehind : ByteArray := prog_12_method_22_code
def yX10_needBehind : MethodName := ⟨RX10, "needBehind", "(I)I"⟩
abbrev cX10_needOfVote : ByteArray := prog_12_method_23_code
def yX10_needOfVote : MethodName := ⟨RX10, "needOfVote", "()I"⟩
abbrev cX10_bestDayUpTo : ByteArray := prog_12_method_24_code
def yX10_bestDayUpTo : MethodName := ⟨RX10, "bestDayUpTo", "(I)I"⟩
abbrev cX10_surplusBehind : ByteArray := prog_12_method_25_code
def yX10_surplusBehind : MethodName := ⟨RX10, "surplusBehind", "(I)I"⟩
abbrev cX10_reasonFor : ByteArray := prog_12_method_26_code
def yX10_reasonFor : MethodName := ⟨RX10, "reasonFor", "(III)I"⟩
abbrev cX10_resultNow : ByteArray := prog_12_method_27_code
def yX10_resultNow : MethodName := ⟨RX10, "resultNow", "()I"⟩
abbrev cX10_resultFor : ByteArray := prog_12_method_28_code
def yX10_resultFor : MethodName := ⟨RX10, "resultFor", "(I)I"⟩
abbrev cX10_resultOfRightOnes : ByteArray := prog_12_method_29_code
def yX10_resultOfRightOnes : MethodName := ⟨RX10, "resultOfRightOnes", "()I"⟩
abbrev cX10_resultWithAllInto : ByteArray := prog_12_method_30_code
def yX10_resultWithAllInto : MethodName := ⟨RX10, "resultWithAllInto", "(I)I"⟩
abbrev cX10_canBeLaid : ByteArray := prog_12_method_31_code
def yX10_canBeLaid : MethodName := ⟨RX10, "canBeLaid", "(I)Z"⟩
def RX11 : String := "StickVotes"
def TX11 : u_T := fun k => match k with
  | 0 => ("StickVotes", "parser", "LStickVotes$Parser;", true)
  | 1 => ("StickVotes", "tape", "LStickVotes$Bytes;", true)
  | 2 => ("StickVotes", "village", "LStickVotes$Village;", true)
  | 3 => ("StickVotes", "setup", "LStickVotes$Setup;", true)
  | 4 => ("StickVotes", "now", "LStickVotes$State;", true)
  | 5 => ("StickVotes", "history", "LStickVotes$History;", true)
  | 6 => ("StickVotes", "kept", "[LStickVotes$State;", true)
  | 7 => ("StickVotes", "isKept", "[Z", true)
  | 8 => ("StickVotes", "scribe", "LStickVotes$Scribe;", true)
  | _ => ("StickVotes", "errorAt", "I", false)
def tyX11 : Nat → FieldType := fun k => match k with
  | 0 => .object "StickVotes$Parser"
  | 1 => .object "StickVotes$Bytes"
  | 2 => .object "StickVotes$Village"
  | 3 => .object "StickVotes$Setup"
  | 4 => .object "StickVotes$State"
  | 5 => .object "StickVotes$History"
  | 6 => .array (.object "StickVotes$State")
  | 7 => .array .boolean
  | 8 => .object "StickVotes$Scribe"
  | _ => .int
theorem nmX11 : ∀ a, a < 10 → ∀ b, b < 10 → a ≠ b → (TX11 a).2.1 ≠ (TX11 b).2.1 := by decide +kernel
theorem tyX11_ok : ∀ k, k < 10 → parseFieldDescriptor (TX11 k).2.2.1 = some (tyX11 k) := by decide +kernel
abbrev cX11_init : ByteArray := prog_1_method_1_code
def yX11_init : MethodName := ⟨RX11, "<init>", "()V"⟩
abbrev cX11_append : ByteArray := prog_1_method_2_code
def yX11_append : MethodName := ⟨RX11, "append", "(IIIII)I"⟩
abbrev cX11_truncate : ByteArray := prog_1_method_3_code
def yX11_truncate : MethodName := ⟨RX11, "truncate", "(I)I"⟩
abbrev cX11_load : ByteArray := prog_1_method_4_code
def yX11_load : MethodName := ⟨RX11, "load", "()I"⟩
abbrev cX11_errorPosition : ByteArray := prog_1_method_5_code
def yX11_errorPosition : MethodName := ⟨RX11, "errorPosition", "()I"⟩
abbrev cX11_sail : ByteArray := prog_1_method_6_code
def yX11_sail : MethodName := ⟨RX11, "sail", "(II)I"⟩
abbrev cX11_delay : ByteArray := prog_1_method_7_code
def yX11_delay : MethodName := ⟨RX11, "delay", "(II)I"⟩
abbrev cX11_comeHome : ByteArray := prog_1_method_8_code
def yX11_comeHome : MethodName := ⟨RX11, "comeHome", "(I)I"⟩
abbrev cX11_join : ByteArray := prog_1_method_9_code
def yX11_join : MethodName := ⟨RX11, "join", "(II)I"⟩
abbrev cX11_open : ByteArray := prog_1_method_10_code
def yX11_open : MethodName := ⟨RX11, "open", "(I)I"⟩
abbrev cX11_give : ByteArray := prog_1_method_11_code
def yX11_give : MethodName := ⟨RX11, "give", "(III)I"⟩
abbrev cX11_takeBack : ByteArray := prog_1_method_12_code
def yX11_takeBack : MethodName := ⟨RX11, "takeBack", "(I)I"⟩
abbrev cX11_lay : ByteArray := prog_1_method_13_code
def yX11_lay : MethodName := ⟨RX11, "lay", "(III)I"⟩
abbrev cX11_contest : ByteArray := prog_1_method_14_code
def yX11_contest : MethodName := ⟨RX11, "contest", "(II)I"⟩
abbrev cX11_close : ByteArray := prog_1_method_15_code
def yX11_close : MethodName := ⟨RX11, "close", "()I"⟩
abbrev cX11_recount : ByteArray := prog_1_method_16_code
def yX11_recount : MethodName := ⟨RX11, "recount", "()I"⟩
abbrev cX11_pass : ByteArray := prog_1_method_17_code
def yX11_pass : MethodName := ⟨RX11, "pass", "(I)I"⟩
abbrev cX11_keep : ByteArray := prog_1_method_18_code
def yX11_keep : MethodName := ⟨RX11, "keep", "(I)I"⟩
abbrev cX11_restore : ByteArray := prog_1_method_19_code
def yX11_restore : MethodName := ⟨RX11, "restore", "(I)I"⟩
abbrev cX11_undo : ByteArray := prog_1_method_20_code
def yX11_undo : MethodName := ⟨RX11, "undo", "()I"⟩
abbrev cX11_value : ByteArray := prog_1_method_21_code
def yX11_value : MethodName := ⟨RX11, "value", "(I)I"⟩
abbrev cX11_person : ByteArray := prog_1_method_22_code
def yX11_person : MethodName := ⟨RX11, "person", "(II)I"⟩
abbrev cX11_boat : ByteArray := prog_1_method_23_code
def yX11_boat : MethodName := ⟨RX11, "boat", "(II)I"⟩
abbrev cX11_stick : ByteArray := prog_1_method_24_code
def yX11_stick : MethodName := ⟨RX11, "stick", "(II)I"⟩
abbrev cX11_basket : ByteArray := prog_1_method_25_code
def yX11_basket : MethodName := ⟨RX11, "basket", "(I)I"⟩
abbrev cX11_number : ByteArray := prog_1_method_26_code
def yX11_number : MethodName := ⟨RX11, "number", "(I)I"⟩
abbrev cX11_past : ByteArray := prog_1_method_27_code
def yX11_past : MethodName := ⟨RX11, "past", "(II)I"⟩
abbrev cX11_owners : ByteArray := prog_1_method_30_code
def yX11_owners : MethodName := ⟨RX11, "owners", "(I)I"⟩
abbrev cX11_carries : ByteArray := prog_1_method_31_code
def yX11_carries : MethodName := ⟨RX11, "carries", "(I)I"⟩
abbrev cX11_wrongOnes : ByteArray := prog_1_method_32_code
def yX11_wrongOnes : MethodName := ⟨RX11, "wrongOnes", "()I"⟩
abbrev cX11_why : ByteArray := prog_1_method_33_code
def yX11_why : MethodName := ⟨RX11, "why", "(III)I"⟩
abbrev cX11_needIfHome : ByteArray := prog_1_method_34_code
def yX11_needIfHome : MethodName := ⟨RX11, "needIfHome", "(I)I"⟩
abbrev cX11_leads : ByteArray := prog_1_method_35_code
def yX11_leads : MethodName := ⟨RX11, "leads", "()I"⟩
abbrev cX11_truly : ByteArray := prog_1_method_36_code
def yX11_truly : MethodName := ⟨RX11, "truly", "()I"⟩
abbrev cX11_canWin : ByteArray := prog_1_method_37_code
def yX11_canWin : MethodName := ⟨RX11, "canWin", "(I)Z"⟩
abbrev cX11_lacks : ByteArray := prog_1_method_39_code
def yX11_lacks : MethodName := ⟨RX11, "lacks", "()I"⟩
abbrev cX11_needIn : ByteArray := prog_1_method_40_code
def yX11_needIn : MethodName := ⟨RX11, "needIn", "(I)I"⟩
abbrev cX11_bestDay : ByteArray := prog_1_method_41_code
def yX11_bestDay : MethodName := ⟨RX11, "bestDay", "(I)I"⟩
abbrev cX11_agrees : ByteArray := prog_1_method_43_code
def yX11_agrees : MethodName := ⟨RX11, "agrees", "()Z"⟩
abbrev cX11_share : ByteArray := prog_1_method_44_code
def yX11_share : MethodName := ⟨RX11, "share", "(I)F"⟩
abbrev cX11_seafaring : ByteArray := prog_1_method_45_code
def yX11_seafaring : MethodName := ⟨RX11, "seafaring", "()D"⟩
abbrev cX11_viewLength : ByteArray := prog_1_method_46_code
def yX11_viewLength : MethodName := ⟨RX11, "viewLength", "()I"⟩
abbrev cX11_viewByte : ByteArray := prog_1_method_47_code
def yX11_viewByte : MethodName := ⟨RX11, "viewByte", "(I)I"⟩
abbrev cX11_storyLength : ByteArray := prog_1_method_48_code
def yX11_storyLength : MethodName := ⟨RX11, "storyLength", "()I"⟩
abbrev cX11_storyByte : ByteArray := prog_1_method_49_code
def yX11_storyByte : MethodName := ⟨RX11, "storyByte", "(I)I"⟩
abbrev cX11_setupLength : ByteArray := prog_1_method_50_code
def yX11_setupLength : MethodName := ⟨RX11, "setupLength", "()I"⟩
abbrev cX11_setupByte : ByteArray := prog_1_method_51_code
def yX11_setupByte : MethodName := ⟨RX11, "setupByte", "(I)I"⟩
abbrev cX11_tapeLength : ByteArray := prog_1_method_52_code
def yX11_tapeLength : MethodName := ⟨RX11, "tapeLength", "()I"⟩
abbrev cX11_isIn : ByteArray := prog_1_method_53_code
def yX11_isIn : MethodName := ⟨RX11, "isIn", "(II)Z"⟩
abbrev cX11_isDays : ByteArray := prog_1_method_54_code
def yX11_isDays : MethodName := ⟨RX11, "isDays", "(I)Z"⟩
abbrev cX11_isBasket : ByteArray := prog_1_method_55_code
def yX11_isBasket : MethodName := ⟨RX11, "isBasket", "(I)Z"⟩
abbrev cX11_isPerson : ByteArray := prog_1_method_56_code
def yX11_isPerson : MethodName := ⟨RX11, "isPerson", "(I)Z"⟩
abbrev cX11_isBoat : ByteArray := prog_1_method_57_code
def yX11_isBoat : MethodName := ⟨RX11, "isBoat", "(I)Z"⟩
abbrev cX11_isSlot : ByteArray := prog_1_method_58_code
def yX11_isSlot : MethodName := ⟨RX11, "isSlot", "(I)Z"⟩
abbrev cX11_refusalToLay : ByteArray := prog_1_method_59_code
def yX11_refusalToLay : MethodName := ⟨RX11, "refusalToLay", "(III)I"⟩
abbrev cX11_copyRow : ByteArray := prog_1_method_60_code
def yX11_copyRow : MethodName := ⟨RX11, "copyRow", "([I[I)V"⟩
abbrev cX11_fillRow : ByteArray := prog_1_method_61_code
def yX11_fillRow : MethodName := ⟨RX11, "fillRow", "([II)V"⟩
abbrev cX11_cell : ByteArray := prog_1_method_62_code
def yX11_cell : MethodName := ⟨RX11, "cell", "([III)I"⟩
abbrev cX11_setCell : ByteArray := prog_1_method_63_code
def yX11_setCell : MethodName := ⟨RX11, "setCell", "([III)V"⟩
def RX12 : String := "StickVotesModel"
def TX12 : u_T := fun k => match k with
  | _ => ("", "", "", false)
def tyX12 : Nat → FieldType := fun k => match k with
  | _ => .int
theorem nmX12 : ∀ a, a < 0 → ∀ b, b < 0 → a ≠ b → (TX12 a).2.1 ≠ (TX12 b).2.1 := by decide +kernel
theorem tyX12_ok : ∀ k, k < 0 → parseFieldDescriptor (TX12 k).2.2.1 = some (tyX12 k) := by decide +kernel
def RJ5 : String := "java/lang/AbstractStringBuilder"
def TJ5 : u_T := fun k => match k with
  | _ => ("", "", "", false)
def tyJ5 : Nat → FieldType := fun k => match k with
  | _ => .int
abbrev wsJ50 : List Cond := u_ws RJ5 TJ5 0
theorem nmJ5 : ∀ a, a < 0 → ∀ b, b < 0 → a ≠ b → (TJ5 a).2.1 ≠ (TJ5 b).2.1 := by decide +kernel
theorem tyJ5_ok : ∀ k, k < 0 → parseFieldDescriptor (TJ5 k).2.2.1 = some (tyJ5 k) := by decide +kernel
abbrev cJ5_init_d00df : ByteArray := prog_15_method_2_code
def yJ5_init_d00df : MethodName := ⟨RJ5, "<init>", "(I)V"⟩
abbrev cJ5_init_a7421 : ByteArray := prog_15_method_3_code
def yJ5_init_a7421 : MethodName := ⟨RJ5, "<init>", "(Ljava/lang/String;)V"⟩
abbrev cJ5_length_8abf5 : ByteArray := prog_15_method_6_code
def yJ5_length_8abf5 : MethodName := ⟨RJ5, "length", "()I"⟩
abbrev cJ5_ensureCapacityInternal_d00df : ByteArray := prog_15_method_9_code
def yJ5_ensureCapacityInternal_d00df : MethodName := ⟨RJ5, "ensureCapacityInternal", "(I)V"⟩
abbrev cJ5_newCapacity_0f7a4 : ByteArray := prog_15_method_10_code
def yJ5_newCapacity_0f7a4 : MethodName := ⟨RJ5, "newCapacity", "(I)I"⟩
abbrev cJ5_inflate_da8c8 : ByteArray := prog_15_method_11_code
def yJ5_inflate_da8c8 : MethodName := ⟨RJ5, "inflate", "()V"⟩
abbrev cJ5_append_cf1ce : ByteArray := prog_15_method_22_code
def yJ5_append_cf1ce : MethodName := ⟨RJ5, "append", "(Ljava/lang/String;)Ljava/lang/AbstractStringBuilder;"⟩
abbrev cJ5_appendNull_278bc : ByteArray := prog_15_method_26_code
def yJ5_appendNull_278bc : MethodName := ⟨RJ5, "appendNull", "()Ljava/lang/AbstractStringBuilder;"⟩
abbrev cJ5_append_3fe6f : ByteArray := prog_15_method_31_code
def yJ5_append_3fe6f : MethodName := ⟨RJ5, "append", "(C)Ljava/lang/AbstractStringBuilder;"⟩
abbrev cJ5_append_c97b9 : ByteArray := prog_15_method_32_code
def yJ5_append_c97b9 : MethodName := ⟨RJ5, "append", "(I)Ljava/lang/AbstractStringBuilder;"⟩
abbrev cJ5_getValue_6d5f1 : ByteArray := prog_15_method_64_code
def yJ5_getValue_6d5f1 : MethodName := ⟨RJ5, "getValue", "()[B"⟩
abbrev cJ5_isLatin1_aae02 : ByteArray := prog_15_method_68_code
def yJ5_isLatin1_aae02 : MethodName := ⟨RJ5, "isLatin1", "()Z"⟩
abbrev cJ5_inflateIfNeededFor_a7421 : ByteArray := prog_15_method_71_code
def yJ5_inflateIfNeededFor_a7421 : MethodName := ⟨RJ5, "inflateIfNeededFor", "(Ljava/lang/String;)V"⟩
abbrev cJ5_putStringAt_47b60 : ByteArray := prog_15_method_73_code
def yJ5_putStringAt_47b60 : MethodName := ⟨RJ5, "putStringAt", "(ILjava/lang/String;)V"⟩
def RJx8e188 : String := "java/lang/Cloneable"
def TJx8e188 : u_T := fun k => match k with
  | _ => ("", "", "", false)
def tyJx8e188 : Nat → FieldType := fun k => match k with
  | _ => .int
theorem nmJx8e188 : ∀ a, a < 0 → ∀ b, b < 0 → a ≠ b → (TJx8e188 a).2.1 ≠ (TJx8e188 b).2.1 := by decide +kernel
theorem tyJx8e188_ok : ∀ k, k < 0 → parseFieldDescriptor (TJx8e188 k).2.2.1 = some (tyJx8e188 k) := by decide +kernel
def RJ6 : String := "java/lang/Integer"
def TJ6 : u_T := fun k => match k with
  | _ => ("", "", "", false)
def tyJ6 : Nat → FieldType := fun k => match k with
  | _ => .int
abbrev wsJ60 : List Cond := u_ws RJ6 TJ6 0
theorem nmJ6 : ∀ a, a < 0 → ∀ b, b < 0 → a ≠ b → (TJ6 a).2.1 ≠ (TJ6 b).2.1 := by decide +kernel
theorem tyJ6_ok : ∀ k, k < 0 → parseFieldDescriptor (TJ6 k).2.2.1 = some (tyJ6 k) := by decide +kernel
abbrev cJ6_getChars_ba4f3 : ByteArray := prog_17_method_12_code
def yJ6_getChars_ba4f3 : MethodName := ⟨RJ6, "getChars", "(II[B)I"⟩
abbrev cJ6_stringSize_0f7a4 : ByteArray := prog_17_method_13_code
def yJ6_stringSize_0f7a4 : MethodName := ⟨RJ6, "stringSize", "(I)I"⟩
abbrev cJ6_lowestOneBit_0f7a4 : ByteArray := prog_17_method_46_code
def yJ6_lowestOneBit_0f7a4 : MethodName := ⟨RJ6, "lowestOneBit", "(I)I"⟩
abbrev cJ6_bitCount_0f7a4 : ByteArray := prog_17_method_49_code
def yJ6_bitCount_0f7a4 : MethodName := ⟨RJ6, "bitCount", "(I)I"⟩
def RJ9 : String := "java/lang/Math"
def TJ9 : u_T := fun k => match k with
  | _ => ("", "", "", false)
def tyJ9 : Nat → FieldType := fun k => match k with
  | _ => .int
abbrev wsJ90 : List Cond := u_ws RJ9 TJ9 0
theorem nmJ9 : ∀ a, a < 0 → ∀ b, b < 0 → a ≠ b → (TJ9 a).2.1 ≠ (TJ9 b).2.1 := by decide +kernel
theorem tyJ9_ok : ∀ k, k < 0 → parseFieldDescriptor (TJ9 k).2.2.1 = some (tyJ9 k) := by decide +kernel
abbrev cJ9_floorMod_7cf53 : ByteArray := prog_18_method_50_code
def yJ9_floorMod_7cf53 : MethodName := ⟨RJ9, "floorMod", "(II)I"⟩
abbrev cJ9_max_7cf53 : ByteArray := prog_18_method_65_code
def yJ9_max_7cf53 : MethodName := ⟨RJ9, "max", "(II)I"⟩
abbrev cJ9_min_7cf53 : ByteArray := prog_18_method_69_code
def yJ9_min_7cf53 : MethodName := ⟨RJ9, "min", "(II)I"⟩
def RJ0 : String := "java/lang/String"
def TJ0 : u_T := fun k => match k with
  | 0 => ("java/lang/String", "value", "[B", true)
  | 1 => ("java/lang/String", "coder", "B", true)
  | 2 => ("java/lang/String", "hash", "I", false)
  | _ => ("java/lang/String", "hashIsZero", "Z", false)
def tyJ0 : Nat → FieldType := fun k => match k with
  | 0 => .array .byte
  | 1 => .byte
  | 2 => .int
  | _ => .boolean
abbrev wsJ00 : List Cond := u_ws RJ0 TJ0 4
theorem nmJ0 : ∀ a, a < 4 → ∀ b, b < 4 → a ≠ b → (TJ0 a).2.1 ≠ (TJ0 b).2.1 := by decide +kernel
theorem tyJ0_ok : ∀ k, k < 4 → parseFieldDescriptor (TJ0 k).2.2.1 = some (tyJ0 k) := by decide +kernel
abbrev cJ0_init_81219 : ByteArray := prog_19_method_53_code
def yJ0_init_81219 : MethodName := ⟨RJ0, "<init>", "(Ljava/lang/StringBuilder;)V"⟩
abbrev cJ0_length_8abf5 : ByteArray := prog_19_method_54_code
def yJ0_length_8abf5 : MethodName := ⟨RJ0, "length", "()I"⟩
abbrev cJ0_charAt_5068e : ByteArray := prog_19_method_56_code
def yJ0_charAt_5068e : MethodName := ⟨RJ0, "charAt", "(I)C"⟩
abbrev cJ0_equals_9ea2d : ByteArray := prog_19_method_66_code
def yJ0_equals_9ea2d : MethodName := ⟨RJ0, "equals", "(Ljava/lang/Object;)Z"⟩
abbrev cJ0_getBytes_840e7 : ByteArray := prog_19_method_147_code
def yJ0_getBytes_840e7 : MethodName := ⟨RJ0, "getBytes", "([BIB)V"⟩
abbrev cJ0_init_db425 : ByteArray := prog_19_method_150_code
def yJ0_init_db425 : MethodName := ⟨RJ0, "<init>", "(Ljava/lang/AbstractStringBuilder;Ljava/lang/Void;)V"⟩
abbrev cJ0_coder_7d493 : ByteArray := prog_19_method_152_code
def yJ0_coder_7d493 : MethodName := ⟨RJ0, "coder", "()B"⟩
abbrev cJ0_isLatin1_aae02 : ByteArray := prog_19_method_154_code
def yJ0_isLatin1_aae02 : MethodName := ⟨RJ0, "isLatin1", "()Z"⟩
abbrev cJ0_checkIndex_df160 : ByteArray := prog_19_method_155_code
def yJ0_checkIndex_df160 : MethodName := ⟨RJ0, "checkIndex", "(II)V"⟩
abbrev cJ0_checkBoundsOffCount_cabcc : ByteArray := prog_19_method_157_code
def yJ0_checkBoundsOffCount_cabcc : MethodName := ⟨RJ0, "checkBoundsOffCount", "(III)I"⟩
abbrev cJ0_checkBoundsBeginEnd_23922 : ByteArray := prog_19_method_158_code
def yJ0_checkBoundsBeginEnd_23922 : MethodName := ⟨RJ0, "checkBoundsBeginEnd", "(III)V"⟩
def RJ4 : String := "java/lang/StringBuilder"
def TJ4 : u_T := fun k => match k with
  | 0 => ("java/lang/AbstractStringBuilder", "value", "[B", false)
  | 1 => ("java/lang/AbstractStringBuilder", "coder", "B", false)
  | 2 => ("java/lang/AbstractStringBuilder", "maybeLatin1", "Z", false)
  | _ => ("java/lang/AbstractStringBuilder", "count", "I", false)
def tyJ4 : Nat → FieldType := fun k => match k with
  | 0 => .array .byte
  | 1 => .byte
  | 2 => .boolean
  | _ => .int
abbrev wsJ40 : List Cond := u_ws RJ4 TJ4 4
theorem nmJ4 : ∀ a, a < 4 → ∀ b, b < 4 → a ≠ b → (TJ4 a).2.1 ≠ (TJ4 b).2.1 := by decide +kernel
theorem tyJ4_ok : ∀ k, k < 4 → parseFieldDescriptor (TJ4 k).2.2.1 = some (tyJ4 k) := by decide +kernel
abbrev cJ4_init_da8c8 : ByteArray := prog_20_method_1_code
def yJ4_init_da8c8 : MethodName := ⟨RJ4, "<init>", "()V"⟩
abbrev cJ4_init_a7421 : ByteArray := prog_20_method_3_code
def yJ4_init_a7421 : MethodName := ⟨RJ4, "<init>", "(Ljava/lang/String;)V"⟩
abbrev cJ4_append_15ec4 : ByteArray := prog_20_method_7_code
def yJ4_append_15ec4 : MethodName := ⟨RJ4, "append", "(Ljava/lang/String;)Ljava/lang/StringBuilder;"⟩
abbrev cJ4_append_cf468 : ByteArray := prog_20_method_14_code
def yJ4_append_cf468 : MethodName := ⟨RJ4, "append", "(C)Ljava/lang/StringBuilder;"⟩
abbrev cJ4_append_bf812 : ByteArray := prog_20_method_15_code
def yJ4_append_bf812 : MethodName := ⟨RJ4, "append", "(I)Ljava/lang/StringBuilder;"⟩
abbrev cJ4_toString_0e30d : ByteArray := prog_20_method_42_code
def yJ4_toString_0e30d : MethodName := ⟨RJ4, "toString", "()Ljava/lang/String;"⟩
abbrev cJ4_append_cf1ce : ByteArray := prog_20_method_80_code
def yJ4_append_cf1ce : MethodName := ⟨RJ4, "append", "(Ljava/lang/String;)Ljava/lang/AbstractStringBuilder;"⟩
abbrev cJ4_length_8abf5 : ByteArray := prog_20_method_93_code
def yJ4_length_8abf5 : MethodName := ⟨RJ4, "length", "()I"⟩
def RJ1 : String := "java/lang/StringLatin1"
def TJ1 : u_T := fun k => match k with
  | _ => ("", "", "", false)
def tyJ1 : Nat → FieldType := fun k => match k with
  | _ => .int
abbrev wsJ10 : List Cond := u_ws RJ1 TJ1 0
theorem nmJ1 : ∀ a, a < 0 → ∀ b, b < 0 → a ≠ b → (TJ1 a).2.1 ≠ (TJ1 b).2.1 := by decide +kernel
theorem tyJ1_ok : ∀ k, k < 0 → parseFieldDescriptor (TJ1 k).2.2.1 = some (tyJ1 k) := by decide +kernel
abbrev cJ1_charAt_3b067 : ByteArray := prog_21_method_2_code
def yJ1_charAt_3b067 : MethodName := ⟨RJ1, "charAt", "([BI)C"⟩
abbrev cJ1_canEncode_fc78d : ByteArray := prog_21_method_3_code
def yJ1_canEncode_fc78d : MethodName := ⟨RJ1, "canEncode", "(C)Z"⟩
abbrev cJ1_equals_b5fdf : ByteArray := prog_21_method_13_code
def yJ1_equals_b5fdf : MethodName := ⟨RJ1, "equals", "([B[B)Z"⟩
abbrev cJ1_inflate_0e8fd : ByteArray := prog_21_method_50_code
def yJ1_inflate_0e8fd : MethodName := ⟨RJ1, "inflate", "([BI[BII)V"⟩
def RJ2 : String := "java/lang/StringUTF16"
def TJ2 : u_T := fun k => match k with
  | _ => ("", "", "", false)
def tyJ2 : Nat → FieldType := fun k => match k with
  | _ => .int
abbrev wsJ20 : List Cond := u_ws RJ2 TJ2 0
theorem nmJ2 : ∀ a, a < 0 → ∀ b, b < 0 → a ≠ b → (TJ2 a).2.1 ≠ (TJ2 b).2.1 := by decide +kernel
theorem tyJ2_ok : ∀ k, k < 0 → parseFieldDescriptor (TJ2 k).2.2.1 = some (tyJ2 k) := by decide +kernel
abbrev cJ2_newBytesFor_77867 : ByteArray := prog_22_method_2_code
def yJ2_newBytesFor_77867 : MethodName := ⟨RJ2, "newBytesFor", "(I)[B"⟩
abbrev cJ2_newBytesLength_0f7a4 : ByteArray := prog_22_method_3_code
def yJ2_newBytesLength_0f7a4 : MethodName := ⟨RJ2, "newBytesLength", "(I)I"⟩
abbrev cJ2_putChar_b72d1 : ByteArray := prog_22_method_4_code
def yJ2_putChar_b72d1 : MethodName := ⟨RJ2, "putChar", "([BII)V"⟩
abbrev cJ2_getChar_3b067 : ByteArray := prog_22_method_5_code
def yJ2_getChar_3b067 : MethodName := ⟨RJ2, "getChar", "([BI)C"⟩
abbrev cJ2_length_9d52b : ByteArray := prog_22_method_6_code
def yJ2_length_9d52b : MethodName := ⟨RJ2, "length", "([B)I"⟩
abbrev cJ2_coderFromArrayLen_85cad : ByteArray := prog_22_method_15_code
def yJ2_coderFromArrayLen_85cad : MethodName := ⟨RJ2, "coderFromArrayLen", "([BI)B"⟩
abbrev cJ2_compress_39247 : ByteArray := prog_22_method_17_code
def yJ2_compress_39247 : MethodName := ⟨RJ2, "compress", "([BII)[B"⟩
abbrev cJ2_compress_5af95 : ByteArray := prog_22_method_22_code
def yJ2_compress_5af95 : MethodName := ⟨RJ2, "compress", "([BI[BII)I"⟩
abbrev cJ2_putCharSB_b72d1 : ByteArray := prog_22_method_71_code
def yJ2_putCharSB_b72d1 : MethodName := ⟨RJ2, "putCharSB", "([BII)V"⟩
abbrev cJ2_getChars_46870 : ByteArray := prog_22_method_77_code
def yJ2_getChars_46870 : MethodName := ⟨RJ2, "getChars", "(III[B)I"⟩
abbrev cJ2_putCharsAt_cd4e5 : ByteArray := prog_22_method_81_code
def yJ2_putCharsAt_cd4e5 : MethodName := ⟨RJ2, "putCharsAt", "([BICCCC)I"⟩
abbrev cJ2_charAt_3b067 : ByteArray := prog_22_method_83_code
def yJ2_charAt_3b067 : MethodName := ⟨RJ2, "charAt", "([BI)C"⟩
abbrev cJ2_inflate_0e8fd : ByteArray := prog_22_method_86_code
def yJ2_inflate_0e8fd : MethodName := ⟨RJ2, "inflate", "([BI[BII)V"⟩
abbrev cJ2_getChars_ba4f3 : ByteArray := prog_22_method_89_code
def yJ2_getChars_ba4f3 : MethodName := ⟨RJ2, "getChars", "(II[B)I"⟩
abbrev cJ2_checkIndex_2214a : ByteArray := prog_22_method_91_code
def yJ2_checkIndex_2214a : MethodName := ⟨RJ2, "checkIndex", "(I[B)V"⟩
abbrev cJ2_checkBoundsBeginEnd_d044e : ByteArray := prog_22_method_93_code
def yJ2_checkBoundsBeginEnd_d044e : MethodName := ⟨RJ2, "checkBoundsBeginEnd", "(II[B)V"⟩
abbrev cJ2_checkBoundsOffCount_d044e : ByteArray := prog_22_method_94_code
def yJ2_checkBoundsOffCount_d044e : MethodName := ⟨RJ2, "checkBoundsOffCount", "(II[B)V"⟩
def RJ10 : String := "java/lang/System"
def TJ10 : u_T := fun k => match k with
  | _ => ("", "", "", false)
def tyJ10 : Nat → FieldType := fun k => match k with
  | _ => .int
abbrev wsJ100 : List Cond := u_ws RJ10 TJ10 0
theorem nmJ10 : ∀ a, a < 0 → ∀ b, b < 0 → a ≠ b → (TJ10 a).2.1 ≠ (TJ10 b).2.1 := by decide +kernel
theorem tyJ10_ok : ∀ k, k < 0 → parseFieldDescriptor (TJ10 k).2.2.1 = some (tyJ10 k) := by decide +kernel
def RJ7 : String := "java/util/Arrays"
def TJ7 : u_T := fun k => match k with
  | _ => ("", "", "", false)
def tyJ7 : Nat → FieldType := fun k => match k with
  | _ => .int
abbrev wsJ70 : List Cond := u_ws RJ7 TJ7 0
theorem nmJ7 : ∀ a, a < 0 → ∀ b, b < 0 → a ≠ b → (TJ7 a).2.1 ≠ (TJ7 b).2.1 := by decide +kernel
theorem tyJ7_ok : ∀ k, k < 0 → parseFieldDescriptor (TJ7 k).2.2.1 = some (tyJ7 k) := by decide +kernel
abbrev cJ7_copyOf_9075b : ByteArray := prog_24_method_121_code
def yJ7_copyOf_9075b : MethodName := ⟨RJ7, "copyOf", "([BI)[B"⟩
abbrev cJ7_checkLength_df160 : ByteArray := prog_24_method_131_code
def yJ7_checkLength_df160 : MethodName := ⟨RJ7, "checkLength", "(II)V"⟩
abbrev cJ7_copyOfRange_39247 : ByteArray := prog_24_method_132_code
def yJ7_copyOfRange_39247 : MethodName := ⟨RJ7, "copyOfRange", "([BII)[B"⟩
abbrev cJ7_copyOfRangeByte_39247 : ByteArray := prog_24_method_133_code
def yJ7_copyOfRangeByte_39247 : MethodName := ⟨RJ7, "copyOfRangeByte", "([BII)[B"⟩
def RJ8 : String := "jdk/internal/util/ArraysSupport"
def TJ8 : u_T := fun k => match k with
  | _ => ("", "", "", false)
def tyJ8 : Nat → FieldType := fun k => match k with
  | _ => .int
abbrev wsJ80 : List Cond := u_ws RJ8 TJ8 0
theorem nmJ8 : ∀ a, a < 0 → ∀ b, b < 0 → a ≠ b → (TJ8 a).2.1 ≠ (TJ8 b).2.1 := by decide +kernel
theorem tyJ8_ok : ∀ k, k < 0 → parseFieldDescriptor (TJ8 k).2.2.1 = some (tyJ8 k) := by decide +kernel
abbrev cJ8_newLength_cabcc : ByteArray := prog_25_method_27_code
def yJ8_newLength_cabcc : MethodName := ⟨RJ8, "newLength", "(III)I"⟩
abbrev cJ8_hugeLength_7cf53 : ByteArray := prog_25_method_28_code
def yJ8_hugeLength_7cf53 : MethodName := ⟨RJ8, "hugeLength", "(II)I"⟩
def RJ3 : String := "jdk/internal/util/Preconditions"
def TJ3 : u_T := fun k => match k with
  | _ => ("", "", "", false)
def tyJ3 : Nat → FieldType := fun k => match k with
  | _ => .int
abbrev wsJ30 : List Cond := u_ws RJ3 TJ3 0
theorem nmJ3 : ∀ a, a < 0 → ∀ b, b < 0 → a ≠ b → (TJ3 a).2.1 ≠ (TJ3 b).2.1 := by decide +kernel
theorem tyJ3_ok : ∀ k, k < 0 → parseFieldDescriptor (TJ3 k).2.2.1 = some (tyJ3 k) := by decide +kernel
abbrev cJ3_checkIndex_8e157 : ByteArray := prog_26_method_11_code
def yJ3_checkIndex_8e157 : MethodName := ⟨RJ3, "checkIndex", "(IILjava/util/function/BiFunction;)I"⟩
abbrev cJ3_checkFromToIndex_8c36e : ByteArray := prog_26_method_12_code
def yJ3_checkFromToIndex_8c36e : MethodName := ⟨RJ3, "checkFromToIndex", "(IIILjava/util/function/BiFunction;)I"⟩
abbrev cJ3_checkFromIndexSize_8c36e : ByteArray := prog_26_method_13_code
def yJ3_checkFromIndexSize_8c36e : MethodName := ⟨RJ3, "checkFromIndexSize", "(IIILjava/util/function/BiFunction;)I"⟩
def RL : String := "StickVotesLaw"
abbrev cL_draw : ByteArray := method_2_code
def yL_draw : MethodName := ⟨RL, "draw", "([I)I"⟩
abbrev cL_write : ByteArray := method_3_code
def yL_write : MethodName := ⟨RL, "write", "(LStickVotes;Ljava/lang/String;)V"⟩
abbrev cL_loads : ByteArray := method_4_code
def yL_loads : MethodName := ⟨RL, "loads", "(LStickVotes;Ljava/lang/String;)Z"⟩
abbrev cL_setup : ByteArray := method_5_code
def yL_setup : MethodName := ⟨RL, "setup", "([I)Ljava/lang/String;"⟩
abbrev cL_text : ByteArray := method_6_code
def yL_text : MethodName := ⟨RL, "text", "(LStickVotes;I)Ljava/lang/String;"⟩
abbrev cL_acts : ByteArray := method_7_code
def yL_acts : MethodName := ⟨RL, "acts", "(LStickVotes;[I)I"⟩
abbrev cL_stands : ByteArray := method_8_code
def yL_stands : MethodName := ⟨RL, "stands", "(LStickVotes;)Z"⟩
abbrev cL_isDue : ByteArray := method_9_code
def yL_isDue : MethodName := ⟨RL, "isDue", "(LStickVotes;III)Z"⟩
abbrev cL_told : ByteArray := method_10_code
def yL_told : MethodName := ⟨RL, "told", "(LStickVotes;)Ljava/lang/String;"⟩
abbrev cL_foretold : ByteArray := method_11_code
def yL_foretold : MethodName := ⟨RL, "foretold", "(LStickVotes;[I)Z"⟩
abbrev cL_undone : ByteArray := method_12_code
def yL_undone : MethodName := ⟨RL, "undone", "(LStickVotes;[I)Z"⟩
abbrev cL_law : ByteArray := code
def yL_law : MethodName := ⟨RL, "law", "([I)Z"⟩
abbrev vwCl : List vw_C := [(RX0, TX0, 2), (RX1, TX1, 2), (RX2, TX2, 6), (RX3, TX3, 3), (RX4, TX4, 5), (RX5, TX5, 3), (RX6, TX6, 1), (RX7, TX7, 6), (RX8, TX8, 12), (RX9, TX9, 6), (RX10, TX10, 3), (RX11, TX11, 10), (RJ0, TJ0, 4), (RJ4, TJ4, 4)]
/-! the words of the tables that stay when the machine warms up, by their places -/
theorem tt_sub {T t : List Cond} (ps : List Nat) (h : ps.filterMap (fun i => T[i]?) = t) : ∀ w ∈ t, w ∈ T := by
  intro w hw
  rw [← h] at hw
  obtain ⟨i, -, hi⟩ := List.mem_filterMap.mp hw
  exact List.mem_of_getElem? hi
def tt0 : List Cond := [.initialized RL, .initialized RX11, .initialized RX4, .initialized RX1, .initialized RJ9, .initialized RX7, .initialized RX10, .initialized RX8, .initialized RX2, .initialized RX9, .initialized RX5, .initialized RX0, .initialized RX3, .initialized RX6, .initialized RJ5, .initialized RJ4, .initialized RJ0, .initialized RJ2, .initialized RJ8, .initialized RJ7, .initialized RJ10, .initialized RJ3, .initialized RJ1, .initialized RJ6, .classLink RL 9 RX11]
set_option maxRecDepth 20000 in
theorem tt0_in : ∀ w ∈ tt0, w ∈ tables_1_1 := tt_sub [0, 1, 2, 3, 4, 5, 6, 7, 8, 9, 10, 11, 12, 13, 14, 15, 16, 17, 18, 19, 20, 21, 22, 23, 24] rfl
def tt1 : List Cond := [.instantiable RX11 10, .methodLink RL 262 yX11_init, .instanceMethod yX11_init, .code yX11_init cX11_init 1 (Option.none : Option Jvm.ClassFile.FieldType), .methodLink RX11 1 objectInit, .instanceMethod objectInit, .code objectInit ⟨#[0xb1]⟩ 1 (Option.none : Option Jvm.ClassFile.FieldType), .classLink RX11 7 RX4, .instantiable RX4 5, .instanceMethod yX4_init, .code yX4_init cX4_init 1 (Option.none : Option Jvm.ClassFile.FieldType), .methodLink RX4 3 objectInit, .classLink RX4 9 RX1, .instantiable RX1 2, .methodLink RX4 11 yX1_init, .instanceMethod yX1_init, .code yX1_init cX1_init 2 (Option.none : Option Jvm.ClassFile.FieldType), .methodLink RX1 3 objectInit, .methodLink RX1 9 yJ9_max_7cf53, .static yJ9_max_7cf53, .code yJ9_max_7cf53 cJ9_max_7cf53 2 (Option.some Jvm.ClassFile.FieldType.int), .fieldLink RX1 15 "StickVotes$Bytes" "cells" "[B", .fieldLink RX1 21 "StickVotes$Bytes" "length" "I", .laysFinal RX1 "StickVotes$Bytes" "cells" "[B", .lays RX1 "StickVotes$Bytes" "length" "I"]
set_option maxRecDepth 20000 in
theorem tt1_in : ∀ w ∈ tt1, w ∈ tables_1_1 := tt_sub [25, 26, 27, 28, 29, 30, 31, 32, 33, 35, 36, 37, 38, 39, 40, 41, 42, 43, 44, 45, 46, 47, 48, 49, 51] rfl
def tt2 : List Cond := [.superclass RX1 "java/lang/Object", .arrayClass Jvm.ClassFile.FieldType.byte, .classLink RX4 20 RX7, .instantiable RX7 6, .instanceMethod yX7_init, .code yX7_init cX7_init 1 (Option.none : Option Jvm.ClassFile.FieldType), .methodLink RX7 3 objectInit, .fieldLink RX7 9 "StickVotes$Setup" "numbers" "[I", .fieldLink RX7 15 "StickVotes$Setup" "boatNames" "[I", .fieldLink RX7 18 "StickVotes$Setup" "personNames" "[I", .fieldLink RX7 21 "StickVotes$Setup" "firstBoats" "[I", .fieldLink RX7 36 "StickVotes$Setup" "boats" "I", .fieldLink RX7 40 "StickVotes$Setup" "people" "I", .laysFinal RX7 "StickVotes$Setup" "numbers" "[I", .laysFinal RX7 "StickVotes$Setup" "boatNames" "[I", .laysFinal RX7 "StickVotes$Setup" "personNames" "[I", .laysFinal RX7 "StickVotes$Setup" "firstBoats" "[I", .lays RX7 "StickVotes$Setup" "boats" "I", .lays RX7 "StickVotes$Setup" "people" "I", .superclass RX7 "java/lang/Object", .arrayClass Jvm.ClassFile.FieldType.int, .fieldLink RX4 14 "StickVotes$Parser" "tape" "LStickVotes$Bytes;", .fieldLink RX11 16 "StickVotes$Parser" "tape" "LStickVotes$Bytes;", .fieldLink RX4 23 "StickVotes$Parser" "draft" "LStickVotes$Setup;", .fieldLink RX11 86 "StickVotes$Parser" "draft" "LStickVotes$Setup;"]
set_option maxRecDepth 20000 in
theorem tt2_in : ∀ w ∈ tt2, w ∈ tables_1_1 := tt_sub [53, 54, 55, 56, 58, 59, 60, 61, 62, 63, 64, 65, 66, 67, 69, 71, 73, 75, 77, 79, 80, 81, 82, 83, 84] rfl
def tt3 : List Cond := [.fieldLink RX4 97 "StickVotes$Parser" "kind" "I", .fieldLink RX4 47 "StickVotes$Parser" "start" "I", .fieldLink RX4 30 "StickVotes$Parser" "end" "I", .laysFinal RX4 "StickVotes$Parser" "tape" "LStickVotes$Bytes;", .laysFinal RX4 "StickVotes$Parser" "draft" "LStickVotes$Setup;", .lays RX4 "StickVotes$Parser" "kind" "I", .lays RX4 "StickVotes$Parser" "start" "I", .lays RX4 "StickVotes$Parser" "end" "I", .superclass RX4 "java/lang/Object", .classLink RX11 21 RX10, .instantiable RX10 3, .instanceMethod yX10_init, .code yX10_init cX10_init 1 (Option.none : Option Jvm.ClassFile.FieldType), .methodLink RX10 3 objectInit, .classLink RX10 9 RX7, .classLink RX10 18 RX8, .instantiable RX8 12, .instanceMethod yX8_init, .code yX8_init cX8_init 1 (Option.none : Option Jvm.ClassFile.FieldType), .methodLink RX8 3 objectInit, .classLink RX8 9 RX2, .instantiable RX2 6, .instanceMethod yX2_init, .code yX2_init cX2_init 1 (Option.none : Option Jvm.ClassFile.FieldType), .methodLink RX2 3 objectInit]
set_option maxRecDepth 20000 in
theorem tt3_in : ∀ w ∈ tt3, w ∈ tables_1_1 := tt_sub [85, 86, 87, 88, 90, 92, 94, 96, 98, 99, 100, 102, 103, 104, 105, 107, 108, 110, 111, 112, 113, 114, 116, 117, 118] rfl
def tt4 : List Cond := [.fieldLink RX2 9 "StickVotes$Fleet" "boatOf" "[I", .fieldLink RX2 15 "StickVotes$Fleet" "atSea" "[I", .fieldLink RX2 18 "StickVotes$Fleet" "faults" "[I", .fieldLink RX2 21 "StickVotes$Fleet" "daysAtSea" "[I", .fieldLink RX2 24 "StickVotes$Fleet" "back" "[I", .fieldLink RX2 27 "StickVotes$Fleet" "sailed" "[I", .laysFinal RX2 "StickVotes$Fleet" "boatOf" "[I", .laysFinal RX2 "StickVotes$Fleet" "atSea" "[I", .laysFinal RX2 "StickVotes$Fleet" "faults" "[I", .laysFinal RX2 "StickVotes$Fleet" "daysAtSea" "[I", .laysFinal RX2 "StickVotes$Fleet" "back" "[I", .laysFinal RX2 "StickVotes$Fleet" "sailed" "[I", .superclass RX2 "java/lang/Object", .classLink RX8 18 RX9, .instantiable RX9 6, .instanceMethod yX9_init, .code yX9_init cX9_init 1 (Option.none : Option Jvm.ClassFile.FieldType), .methodLink RX9 3 objectInit, .fieldLink RX9 9 "StickVotes$Sticks" "place" "[I", .fieldLink RX9 15 "StickVotes$Sticks" "carrier" "[I", .fieldLink RX9 18 "StickVotes$Sticks" "bound" "[I", .fieldLink RX9 21 "StickVotes$Sticks" "basket" "[I", .fieldLink RX9 24 "StickVotes$Sticks" "day" "[I", .fieldLink RX9 27 "StickVotes$Sticks" "reason" "[I", .laysFinal RX9 "StickVotes$Sticks" "place" "[I"]
set_option maxRecDepth 20000 in
theorem tt4_in : ∀ w ∈ tt4, w ∈ tables_1_1 := tt_sub [119, 120, 121, 122, 123, 124, 125, 127, 129, 131, 133, 135, 137, 138, 139, 141, 142, 143, 144, 145, 146, 147, 148, 149, 150] rfl
def tt5 : List Cond := [.laysFinal RX9 "StickVotes$Sticks" "carrier" "[I", .laysFinal RX9 "StickVotes$Sticks" "bound" "[I", .laysFinal RX9 "StickVotes$Sticks" "basket" "[I", .laysFinal RX9 "StickVotes$Sticks" "day" "[I", .laysFinal RX9 "StickVotes$Sticks" "reason" "[I", .superclass RX9 "java/lang/Object", .classLink RX8 25 RX5, .instantiable RX5 3, .methodLink RX8 27 yX5_init, .instanceMethod yX5_init, .code yX5_init cX5_init 2 (Option.none : Option Jvm.ClassFile.FieldType), .methodLink RX5 3 objectInit, .methodLink RX5 9 yJ9_max_7cf53, .fieldLink RX5 15 "StickVotes$Ring" "rows" "I", .fieldLink RX5 21 "StickVotes$Ring" "cells" "[I", .fieldLink RX5 25 "StickVotes$Ring" "added" "I", .laysFinal RX5 "StickVotes$Ring" "rows" "I", .laysFinal RX5 "StickVotes$Ring" "cells" "[I", .lays RX5 "StickVotes$Ring" "added" "I", .superclass RX5 "java/lang/Object", .fieldLink RX8 12 "StickVotes$State" "fleet" "LStickVotes$Fleet;", .fieldLink RX6 49 "StickVotes$State" "fleet" "LStickVotes$Fleet;", .fieldLink RX10 46 "StickVotes$State" "fleet" "LStickVotes$Fleet;", .fieldLink RX11 108 "StickVotes$State" "fleet" "LStickVotes$Fleet;", .fieldLink RX8 21 "StickVotes$State" "sticks" "LStickVotes$Sticks;"]
set_option maxRecDepth 20000 in
theorem tt5_in : ∀ w ∈ tt5, w ∈ tables_1_1 := tt_sub [152, 154, 156, 158, 160, 162, 163, 164, 165, 166, 167, 168, 169, 170, 171, 172, 173, 175, 177, 179, 180, 181, 182, 183, 184] rfl
def tt6 : List Cond := [.fieldLink RX6 39 "StickVotes$State" "sticks" "LStickVotes$Sticks;", .fieldLink RX10 87 "StickVotes$State" "sticks" "LStickVotes$Sticks;", .fieldLink RX11 158 "StickVotes$State" "sticks" "LStickVotes$Sticks;", .fieldLink RX8 30 "StickVotes$State" "past" "LStickVotes$Ring;", .fieldLink RX10 154 "StickVotes$State" "past" "LStickVotes$Ring;", .fieldLink RX11 311 "StickVotes$State" "past" "LStickVotes$Ring;", .fieldLink RX8 34 "StickVotes$State" "log" "LStickVotes$Ring;", .fieldLink RX10 56 "StickVotes$State" "log" "LStickVotes$Ring;", .fieldLink RX11 262 "StickVotes$State" "log" "LStickVotes$Ring;", .fieldLink RX8 46 "StickVotes$State" "day" "I", .fieldLink RX10 42 "StickVotes$State" "day" "I", .fieldLink RX11 222 "StickVotes$State" "day" "I", .fieldLink RX8 50 "StickVotes$State" "votes" "I", .fieldLink RX10 100 "StickVotes$State" "votes" "I", .fieldLink RX11 259 "StickVotes$State" "votes" "I", .fieldLink RX8 56 "StickVotes$State" "isOpen" "Z", .fieldLink RX10 144 "StickVotes$State" "isOpen" "Z", .fieldLink RX8 60 "StickVotes$State" "baskets" "I", .fieldLink RX11 250 "StickVotes$State" "baskets" "I", .fieldLink RX8 63 "StickVotes$State" "lays" "I", .fieldLink RX10 113 "StickVotes$State" "lays" "I", .fieldLink RX11 361 "StickVotes$State" "lays" "I", .fieldLink RX8 66 "StickVotes$State" "recounts" "I", .fieldLink RX10 140 "StickVotes$State" "recounts" "I", .fieldLink RX11 204 "StickVotes$State" "recounts" "I"]
set_option maxRecDepth 20000 in
theorem tt6_in : ∀ w ∈ tt6, w ∈ tables_1_1 := tt_sub [185, 186, 187, 188, 189, 190, 191, 192, 193, 194, 195, 196, 197, 198, 199, 200, 201, 202, 203, 204, 205, 206, 207, 208, 209] rfl
def tt7 : List Cond := [.fieldLink RX8 69 "StickVotes$State" "fixedNeed" "I", .fieldLink RX10 148 "StickVotes$State" "fixedNeed" "I", .fieldLink RX8 72 "StickVotes$State" "closedOn" "I", .fieldLink RX10 170 "StickVotes$State" "closedOn" "I", .laysFinal RX8 "StickVotes$State" "fleet" "LStickVotes$Fleet;", .laysFinal RX8 "StickVotes$State" "sticks" "LStickVotes$Sticks;", .laysFinal RX8 "StickVotes$State" "past" "LStickVotes$Ring;", .laysFinal RX8 "StickVotes$State" "log" "LStickVotes$Ring;", .lays RX8 "StickVotes$State" "day" "I", .lays RX8 "StickVotes$State" "votes" "I", .lays RX8 "StickVotes$State" "isOpen" "Z", .lays RX8 "StickVotes$State" "baskets" "I", .lays RX8 "StickVotes$State" "lays" "I", .lays RX8 "StickVotes$State" "recounts" "I", .lays RX8 "StickVotes$State" "fixedNeed" "I", .lays RX8 "StickVotes$State" "closedOn" "I", .superclass RX8 "java/lang/Object", .classLink RX10 25 RX0]
set_option maxRecDepth 20000 in
theorem tt7_in : ∀ w ∈ tt7, w ∈ tables_1_1 := tt_sub [210, 211, 212, 213, 214, 216, 218, 220, 222, 224, 226, 228, 230, 232, 234, 236, 238, 239] rfl
def tt8 : List Cond := [.instantiable RX0 2, .instanceMethod yX0_init, .code yX0_init cX0_init 1 (Option.none : Option Jvm.ClassFile.FieldType), .methodLink RX0 3 objectInit, .fieldLink RX0 9 "StickVotes$Ballot" "basketOf" "[I", .fieldLink RX0 15 "StickVotes$Ballot" "counts" "[I", .laysFinal RX0 "StickVotes$Ballot" "basketOf" "[I", .laysFinal RX0 "StickVotes$Ballot" "counts" "[I", .superclass RX0 "java/lang/Object", .fieldLink RX10 12 "StickVotes$Village" "setup" "LStickVotes$Setup;", .fieldLink RX11 28 "StickVotes$Village" "setup" "LStickVotes$Setup;", .fieldLink RX10 21 "StickVotes$Village" "now" "LStickVotes$State;", .fieldLink RX11 33 "StickVotes$Village" "now" "LStickVotes$State;", .fieldLink RX10 28 "StickVotes$Village" "ballot" "LStickVotes$Ballot;", .laysFinal RX10 "StickVotes$Village" "setup" "LStickVotes$Setup;", .laysFinal RX10 "StickVotes$Village" "now" "LStickVotes$State;", .laysFinal RX10 "StickVotes$Village" "ballot" "LStickVotes$Ballot;", .superclass RX10 "java/lang/Object", .classLink RX11 38 RX3, .instantiable RX3 3, .methodLink RX11 40 yX3_init, .instanceMethod yX3_init, .code yX3_init cX3_init 2 (Option.none : Option Jvm.ClassFile.FieldType), .methodLink RX3 3 objectInit, .classLink RX3 9 RX8]
set_option maxRecDepth 20000 in
theorem tt8_in : ∀ w ∈ tt8, w ∈ tables_1_2 := tt_sub [0, 2, 3, 4, 5, 6, 7, 9, 11, 12, 13, 14, 15, 16, 17, 19, 21, 23, 24, 25, 26, 27, 28, 29, 30] rfl
def tt9 : List Cond := [.fieldLink RX3 11 "StickVotes$History" "states" "[LStickVotes$State;", .fieldLink RX3 18 "StickVotes$History" "steps" "I", .fieldLink RX3 22 "StickVotes$History" "next" "I", .laysFinal RX3 "StickVotes$History" "states" "[LStickVotes$State;", .lays RX3 "StickVotes$History" "steps" "I", .lays RX3 "StickVotes$History" "next" "I", .superclass RX3 "java/lang/Object", .classLink RX11 45 RX8, .classLink RX11 56 RX6, .instantiable RX6 1, .instanceMethod yX6_init, .code yX6_init cX6_init 1 (Option.none : Option Jvm.ClassFile.FieldType), .methodLink RX6 3 objectInit, .classLink RX6 9 RX1, .methodLink RX6 11 yX1_init, .fieldLink RX6 14 "StickVotes$Scribe" "text" "LStickVotes$Bytes;", .laysFinal RX6 "StickVotes$Scribe" "text" "LStickVotes$Bytes;", .superclass RX6 "java/lang/Object", .arrayClass Jvm.ClassFile.FieldType.boolean, .methodLink RX11 67 yX10_beginTheFirstOne, .instanceMethod yX10_beginTheFirstOne, .selects RX10 yX10_beginTheFirstOne yX10_beginTheFirstOne, .code yX10_beginTheFirstOne cX10_beginTheFirstOne 1 (Option.none : Option Jvm.ClassFile.FieldType), .methodLink RX10 32 yX7_makeFirstVillage, .instanceMethod yX7_makeFirstVillage]
set_option maxRecDepth 20000 in
theorem tt9_in : ∀ w ∈ tt9, w ∈ tables_1_2 := tt_sub [33, 34, 35, 36, 38, 40, 42, 43, 45, 46, 48, 49, 50, 51, 52, 53, 54, 56, 57, 58, 59, 60, 61, 62, 63] rfl
def tt10 : List Cond := [.selects RX7 yX7_makeFirstVillage yX7_makeFirstVillage, .code yX7_makeFirstVillage cX7_makeFirstVillage 2 (Option.none : Option Jvm.ClassFile.FieldType), .methodLink RX7 24 yX7_clear, .instanceMethod yX7_clear, .selects RX7 yX7_clear yX7_clear, .code yX7_clear cX7_clear 1 (Option.none : Option Jvm.ClassFile.FieldType), .methodLink RX7 27 yX7_setNumber, .instanceMethod yX7_setNumber, .selects RX7 yX7_setNumber yX7_setNumber, .code yX7_setNumber cX7_setNumber 3 (Option.none : Option Jvm.ClassFile.FieldType), .static yX11_setCell, .code yX11_setCell cX11_setCell 3 (Option.none : Option Jvm.ClassFile.FieldType), .constant RX7 31 (33554432 : Int32), .methodLink RX7 32 yX7_addPerson, .instanceMethod yX7_addPerson, .selects RX7 yX7_addPerson yX7_addPerson, .code yX7_addPerson cX7_addPerson 3 (Option.none : Option Jvm.ClassFile.FieldType), .constant RX7 35 (67108864 : Int32), .methodLink RX10 35 yX8_begin, .instanceMethod yX8_begin, .selects RX8 yX8_begin yX8_begin, .code yX8_begin cX8_begin 2 (Option.none : Option Jvm.ClassFile.FieldType), .methodLink RX8 37 yX2_begin, .instanceMethod yX2_begin, .selects RX2 yX2_begin yX2_begin]
set_option maxRecDepth 20000 in
theorem tt10_in : ∀ w ∈ tt10, w ∈ tables_1_2 := tt_sub [64, 65, 66, 67, 68, 69, 70, 71, 72, 73, 75, 76, 77, 78, 79, 80, 81, 82, 83, 84, 85, 86, 87, 88, 89] rfl
def tt11 : List Cond := [.code yX2_begin cX2_begin 3 (Option.none : Option Jvm.ClassFile.FieldType), .methodLink RX2 30 yX7_people, .instanceMethod yX7_people, .selects RX7 yX7_people yX7_people, .code yX7_people cX7_people 1 (Option.some Jvm.ClassFile.FieldType.int), .methodLink RX2 36 yX7_firstBoatOf, .instanceMethod yX7_firstBoatOf, .selects RX7 yX7_firstBoatOf yX7_firstBoatOf, .code yX7_firstBoatOf cX7_firstBoatOf 2 (Option.some Jvm.ClassFile.FieldType.int), .static yX11_cell, .code yX11_cell cX11_cell 3 (Option.some Jvm.ClassFile.FieldType.int), .static yX11_fillRow, .code yX11_fillRow cX11_fillRow 3 (Option.none : Option Jvm.ClassFile.FieldType), .methodLink RX8 41 yX9_begin, .instanceMethod yX9_begin, .selects RX9 yX9_begin yX9_begin, .code yX9_begin cX9_begin 1 (Option.none : Option Jvm.ClassFile.FieldType), .methodLink RX8 43 yX5_clear, .instanceMethod yX5_clear, .selects RX5 yX5_clear yX5_clear, .code yX5_clear cX5_clear 1 (Option.none : Option Jvm.ClassFile.FieldType), .methodLink RX8 53 yX8_beginVote, .instanceMethod yX8_beginVote, .selects RX8 yX8_beginVote yX8_beginVote, .code yX8_beginVote cX8_beginVote 2 (Option.none : Option Jvm.ClassFile.FieldType)]
set_option maxRecDepth 20000 in
theorem tt11_in : ∀ w ∈ tt11, w ∈ tables_1_2 := tt_sub [90, 91, 92, 93, 94, 95, 96, 97, 98, 100, 101, 103, 104, 105, 106, 107, 108, 110, 111, 112, 113, 114, 115, 116, 117] rfl
def tt12 : List Cond := [.fieldLink RX11 10 "StickVotes" "parser" "LStickVotes$Parser;", .fieldLink RX11 20 "StickVotes" "tape" "LStickVotes$Bytes;", .fieldLink RX11 24 "StickVotes" "village" "LStickVotes$Village;", .fieldLink RX11 32 "StickVotes" "setup" "LStickVotes$Setup;", .fieldLink RX11 37 "StickVotes" "now" "LStickVotes$State;", .fieldLink RX11 41 "StickVotes" "history" "LStickVotes$History;", .fieldLink RX11 48 "StickVotes" "kept" "[LStickVotes$State;", .fieldLink RX11 52 "StickVotes" "isKept" "[Z", .fieldLink RX11 59 "StickVotes" "scribe" "LStickVotes$Scribe;", .fieldLink RX11 63 "StickVotes" "errorAt" "I", .laysFinal RX11 "StickVotes" "parser" "LStickVotes$Parser;", .laysFinal RX11 "StickVotes" "tape" "LStickVotes$Bytes;", .laysFinal RX11 "StickVotes" "village" "LStickVotes$Village;", .laysFinal RX11 "StickVotes" "setup" "LStickVotes$Setup;", .laysFinal RX11 "StickVotes" "now" "LStickVotes$State;", .laysFinal RX11 "StickVotes" "history" "LStickVotes$History;", .laysFinal RX11 "StickVotes" "kept" "[LStickVotes$State;", .laysFinal RX11 "StickVotes" "isKept" "[Z", .laysFinal RX11 "StickVotes" "scribe" "LStickVotes$Scribe;", .lays RX11 "StickVotes" "errorAt" "I", .superclass RX11 "java/lang/Object", .methodLink RL 122 yX11_open, .instanceMethod yX11_open, .selects RX11 yX11_open yX11_open, .code yX11_open cX11_open 2 (Option.some Jvm.ClassFile.FieldType.int)]
set_option maxRecDepth 20000 in
theorem tt12_in : ∀ w ∈ tt12, w ∈ tables_1_2 := tt_sub [118, 119, 120, 121, 122, 123, 124, 125, 126, 127, 128, 130, 132, 134, 136, 138, 140, 142, 144, 146, 148, 149, 150, 151, 152] rfl
def tt13 : List Cond := [.methodLink RX11 148 yX10_isVoteOpen, .instanceMethod yX10_isVoteOpen, .selects RX10 yX10_isVoteOpen yX10_isVoteOpen, .code yX10_isVoteOpen cX10_isVoteOpen 1 (Option.some Jvm.ClassFile.FieldType.boolean), .methodLink RX11 117 yX3_remember, .instanceMethod yX3_remember, .selects RX3 yX3_remember yX3_remember, .code yX3_remember cX3_remember 2 (Option.none : Option Jvm.ClassFile.FieldType), .static yX11_isIn, .code yX11_isIn cX11_isIn 2 (Option.some Jvm.ClassFile.FieldType.boolean), .methodLink RX3 29 yX8_copyFrom, .instanceMethod yX8_copyFrom, .selects RX8 yX8_copyFrom yX8_copyFrom, .code yX8_copyFrom cX8_copyFrom 2 (Option.none : Option Jvm.ClassFile.FieldType), .methodLink RX8 75 yX2_copyFrom, .instanceMethod yX2_copyFrom, .selects RX2 yX2_copyFrom yX2_copyFrom, .code yX2_copyFrom cX2_copyFrom 2 (Option.none : Option Jvm.ClassFile.FieldType), .static yX11_copyRow, .code yX11_copyRow cX11_copyRow 2 (Option.none : Option Jvm.ClassFile.FieldType), .methodLink RX11 387 yJ9_min_7cf53, .static yJ9_min_7cf53, .code yJ9_min_7cf53 cJ9_min_7cf53 2 (Option.some Jvm.ClassFile.FieldType.int), .methodLink RX11 390 ⟨"java/lang/System", "arraycopy", "(Ljava/lang/Object;ILjava/lang/Object;II)V"⟩, .static ⟨"java/lang/System", "arraycopy", "(Ljava/lang/Object;ILjava/lang/Object;II)V"⟩]
set_option maxRecDepth 20000 in
theorem tt13_in : ∀ w ∈ tt13, w ∈ tables_1_2 := tt_sub [153, 154, 155, 156, 157, 158, 159, 160, 162, 163, 164, 165, 166, 167, 168, 169, 170, 171, 173, 174, 175, 176, 177, 178, 179] rfl
def tt14 : List Cond := [.native ⟨"java/lang/System", "arraycopy", "(Ljava/lang/Object;ILjava/lang/Object;II)V"⟩, .methodLink RX8 79 yX9_copyFrom, .instanceMethod yX9_copyFrom, .selects RX9 yX9_copyFrom yX9_copyFrom, .code yX9_copyFrom cX9_copyFrom 2 (Option.none : Option Jvm.ClassFile.FieldType), .methodLink RX8 82 yX5_copyFrom, .instanceMethod yX5_copyFrom, .selects RX5 yX5_copyFrom yX5_copyFrom, .code yX5_copyFrom cX5_copyFrom 2 (Option.none : Option Jvm.ClassFile.FieldType), .methodLink RX3 33 yJ9_min_7cf53, .methodLink RX11 152 yX10_beginVote, .instanceMethod yX10_beginVote, .selects RX10 yX10_beginVote yX10_beginVote, .code yX10_beginVote cX10_beginVote 2 (Option.some Jvm.ClassFile.FieldType.int), .methodLink RX10 91 yX9_takeOut, .instanceMethod yX9_takeOut, .selects RX9 yX9_takeOut yX9_takeOut, .code yX9_takeOut cX9_takeOut 2 (Option.none : Option Jvm.ClassFile.FieldType), .methodLink RX9 46 yX9_carrierOf, .instanceMethod yX9_carrierOf, .selects RX9 yX9_carrierOf yX9_carrierOf, .code yX9_carrierOf cX9_carrierOf 2 (Option.some Jvm.ClassFile.FieldType.int), .methodLink RX10 96 yX8_beginVote, .methodLink RX10 103 yX10_latestVote, .instanceMethod yX10_latestVote]
set_option maxRecDepth 20000 in
theorem tt14_in : ∀ w ∈ tt14, w ∈ tables_1_2 := tt_sub [180, 181, 182, 183, 184, 186, 187, 188, 189, 191, 192, 193, 194, 195, 196, 197, 198, 199, 200, 201, 202, 203, 206, 207, 209] rfl
def tt15 : List Cond := [.code yX10_latestVote cX10_latestVote 1 (Option.some Jvm.ClassFile.FieldType.int), .methodLink RX10 60 yX5_add, .instanceMethod yX5_add, .selects RX5 yX5_add yX5_add, .code yX5_add cX5_add 6 (Option.none : Option Jvm.ClassFile.FieldType), .methodLink RX5 35 yX5_placeOf, .instanceMethod yX5_placeOf, .code yX5_placeOf cX5_placeOf 2 (Option.some Jvm.ClassFile.FieldType.int), .methodLink RX5 59 yJ9_floorMod_7cf53, .static yJ9_floorMod_7cf53, .code yJ9_floorMod_7cf53 cJ9_floorMod_7cf53 3 (Option.some Jvm.ClassFile.FieldType.int), .methodLink RL 154 yX11_person, .instanceMethod yX11_person, .selects RX11 yX11_person yX11_person, .code yX11_person cX11_person 3 (Option.some Jvm.ClassFile.FieldType.int), .methodLink RX11 136 yX11_isPerson, .instanceMethod yX11_isPerson, .code yX11_isPerson cX11_isPerson 2 (Option.some Jvm.ClassFile.FieldType.boolean), .methodLink RX11 96 yX7_people, .methodLink RX11 307 yX11_isIn, .methodLink RX11 142 yX2_boatOf, .instanceMethod yX2_boatOf, .selects RX2 yX2_boatOf yX2_boatOf, .code yX2_boatOf cX2_boatOf 2 (Option.some Jvm.ClassFile.FieldType.int), .methodLink RX11 139 yX2_isAtSea]
set_option maxRecDepth 20000 in
theorem tt15_in : ∀ w ∈ tt15, w ∈ tables_1_2 := tt_sub [210, 211, 212, 213, 214, 215, 217, 218, 219, 220, 221, 223, 224, 225, 226, 227, 229, 230, 231, 232, 233, 234, 235, 236, 238] rfl
def tt16 : List Cond := [.instanceMethod yX2_isAtSea]
set_option maxRecDepth 20000 in
theorem tt16_in : ∀ w ∈ tt16, w ∈ tables_1_2 := tt_sub [239] rfl
def tt17 : List Cond := [.selects RX2 yX2_isAtSea yX2_isAtSea, .code yX2_isAtSea cX2_isAtSea 2 (Option.some Jvm.ClassFile.FieldType.boolean), .methodLink RX11 274 yX10_homeDayOf, .instanceMethod yX10_homeDayOf, .selects RX10 yX10_homeDayOf yX10_homeDayOf, .code yX10_homeDayOf cX10_homeDayOf 2 (Option.some Jvm.ClassFile.FieldType.int), .methodLink RX10 181 yX2_isAtSea, .methodLink RX10 184 yX2_boatOf, .methodLink RX10 81 yX2_backOf, .instanceMethod yX2_backOf, .selects RX2 yX2_backOf yX2_backOf, .code yX2_backOf cX2_backOf 2 (Option.some Jvm.ClassFile.FieldType.int), .methodLink RX11 192 yX2_faultsOf, .instanceMethod yX2_faultsOf, .selects RX2 yX2_faultsOf yX2_faultsOf, .code yX2_faultsOf cX2_faultsOf 2 (Option.some Jvm.ClassFile.FieldType.int), .methodLink RX11 171 yX9_carriedBy, .instanceMethod yX9_carriedBy, .selects RX9 yX9_carriedBy yX9_carriedBy, .code yX9_carriedBy cX9_carriedBy 4 (Option.some Jvm.ClassFile.FieldType.int), .methodLink RX9 42 yX9_placeOf, .instanceMethod yX9_placeOf, .selects RX9 yX9_placeOf yX9_placeOf, .code yX9_placeOf cX9_placeOf 2 (Option.some Jvm.ClassFile.FieldType.int), .methodLink RX11 174 yJ6_bitCount_0f7a4]
set_option maxRecDepth 20000 in
theorem tt17_in : ∀ w ∈ tt17, w ∈ tables_1_3 := tt_sub [0, 1, 2, 3, 4, 5, 6, 7, 8, 9, 10, 11, 12, 13, 14, 15, 16, 17, 18, 19, 20, 21, 22, 23, 24] rfl
def tt18 : List Cond := [.static yJ6_bitCount_0f7a4, .code yJ6_bitCount_0f7a4 cJ6_bitCount_0f7a4 1 (Option.some Jvm.ClassFile.FieldType.int), .constant RJ6 265 (1431655765 : Int32), .constant RJ6 266 (858993459 : Int32), .constant RJ6 267 (252645135 : Int32), .methodLink RX11 277 yX9_laidForOthers, .instanceMethod yX9_laidForOthers, .selects RX9 yX9_laidForOthers yX9_laidForOthers, .code yX9_laidForOthers cX9_laidForOthers 5 (Option.some Jvm.ClassFile.FieldType.int), .methodLink RX11 280 yX2_daysAtSeaOf, .instanceMethod yX2_daysAtSeaOf, .selects RX2 yX2_daysAtSeaOf yX2_daysAtSeaOf, .code yX2_daysAtSeaOf cX2_daysAtSeaOf 2 (Option.some Jvm.ClassFile.FieldType.int), .methodLink RL 263 yL_loads, .static yL_loads, .code yL_loads cL_loads 2 (Option.some Jvm.ClassFile.FieldType.boolean), .methodLink RL 31 yL_write, .static yL_write, .code yL_write cL_write 7 (Option.none : Option Jvm.ClassFile.FieldType), .methodLink RL 8 yX11_tapeLength, .instanceMethod yX11_tapeLength, .selects RX11 yX11_tapeLength yX11_tapeLength, .code yX11_tapeLength cX11_tapeLength 1 (Option.some Jvm.ClassFile.FieldType.int), .methodLink RX11 70 yX1_length, .instanceMethod yX1_length]
set_option maxRecDepth 20000 in
theorem tt18_in : ∀ w ∈ tt18, w ∈ tables_1_3 := tt_sub [25, 26, 27, 28, 29, 30, 31, 32, 33, 34, 35, 36, 37, 38, 39, 40, 41, 42, 43, 44, 45, 46, 47, 48, 49] rfl
def tt19 : List Cond := [.selects RX1 yX1_length yX1_length, .code yX1_length cX1_length 1 (Option.some Jvm.ClassFile.FieldType.int), .methodLink RL 14 yX11_truncate, .instanceMethod yX11_truncate, .selects RX11 yX11_truncate yX11_truncate, .code yX11_truncate cX11_truncate 2 (Option.some Jvm.ClassFile.FieldType.int), .methodLink RX11 80 yX1_cutTo, .instanceMethod yX1_cutTo, .selects RX1 yX1_cutTo yX1_cutTo, .code yX1_cutTo cX1_cutTo 2 (Option.none : Option Jvm.ClassFile.FieldType), .methodLink RL 18 yJ0_length_8abf5, .instanceMethod yJ0_length_8abf5, .selects RJ0 yJ0_length_8abf5 yJ0_length_8abf5, .code yJ0_length_8abf5 cJ0_length_8abf5 1 (Option.some Jvm.ClassFile.FieldType.int), .methodLink RJ0 335 yJ0_coder_7d493, .instanceMethod yJ0_coder_7d493, .selects RJ0 yJ0_coder_7d493 yJ0_coder_7d493, .code yJ0_coder_7d493 cJ0_coder_7d493 1 (Option.some Jvm.ClassFile.FieldType.byte), .fieldLink RJ0 38 "java/lang/String" "COMPACT_STRINGS" "Z", .methodLink RL 23 yJ0_charAt_5068e, .instanceMethod yJ0_charAt_5068e, .selects RJ0 yJ0_charAt_5068e yJ0_charAt_5068e, .code yJ0_charAt_5068e cJ0_charAt_5068e 2 (Option.some Jvm.ClassFile.FieldType.char), .methodLink RJ0 492 yJ0_isLatin1_aae02, .instanceMethod yJ0_isLatin1_aae02]
set_option maxRecDepth 20000 in
theorem tt19_in : ∀ w ∈ tt19, w ∈ tables_1_3 := tt_sub [50, 51, 52, 53, 54, 55, 56, 57, 58, 59, 60, 61, 62, 63, 64, 65, 66, 67, 68, 70, 71, 72, 73, 74, 75] rfl
def tt20 : List Cond := [.selects RJ0 yJ0_isLatin1_aae02 yJ0_isLatin1_aae02, .code yJ0_isLatin1_aae02 cJ0_isLatin1_aae02 1 (Option.some Jvm.ClassFile.FieldType.boolean), .methodLink RJ0 495 yJ1_charAt_3b067, .static yJ1_charAt_3b067, .code yJ1_charAt_3b067 cJ1_charAt_3b067 2 (Option.some Jvm.ClassFile.FieldType.char), .methodLink RJ1 9 yJ0_checkIndex_df160, .static yJ0_checkIndex_df160, .code yJ0_checkIndex_df160 cJ0_checkIndex_df160 2 (Option.none : Option Jvm.ClassFile.FieldType), .fieldLink RJ0 1053 "jdk/internal/util/Preconditions" "SIOOBE_FORMATTER" "Ljava/util/function/BiFunction;", .methodLink RJ0 1059 yJ3_checkIndex_8e157, .static yJ3_checkIndex_8e157, .code yJ3_checkIndex_8e157 cJ3_checkIndex_8e157 3 (Option.some Jvm.ClassFile.FieldType.int), .methodLink RJ0 498 yJ2_charAt_3b067, .static yJ2_charAt_3b067, .code yJ2_charAt_3b067 cJ2_charAt_3b067 2 (Option.some Jvm.ClassFile.FieldType.char), .methodLink RJ2 67 yJ2_checkIndex_2214a, .static yJ2_checkIndex_2214a, .code yJ2_checkIndex_2214a cJ2_checkIndex_2214a 2 (Option.none : Option Jvm.ClassFile.FieldType), .methodLink RJ2 48 yJ2_length_9d52b, .static yJ2_length_9d52b, .code yJ2_length_9d52b cJ2_length_9d52b 1 (Option.some Jvm.ClassFile.FieldType.int), .methodLink RJ2 414 yJ0_checkIndex_df160, .methodLink RJ2 71 yJ2_getChar_3b067, .static yJ2_getChar_3b067, .code yJ2_getChar_3b067 cJ2_getChar_3b067 2 (Option.some Jvm.ClassFile.FieldType.char)]
set_option maxRecDepth 20000 in
theorem tt20_in : ∀ w ∈ tt20, w ∈ tables_1_3 := tt_sub [76, 77, 78, 79, 80, 81, 82, 83, 84, 86, 87, 88, 89, 90, 91, 92, 93, 94, 95, 96, 97, 98, 99, 100, 101] rfl
def tt21 : List Cond := [.fieldLink RJ2 44 "java/lang/StringUTF16" "$assertionsDisabled" "Z", .fieldLink RJ2 59 "java/lang/StringUTF16" "HI_BYTE_SHIFT" "I", .fieldLink RJ2 63 "java/lang/StringUTF16" "LO_BYTE_SHIFT" "I", .methodLink RL 27 yX11_append, .instanceMethod yX11_append, .selects RX11 yX11_append yX11_append, .code yX11_append cX11_append 6 (Option.some Jvm.ClassFile.FieldType.int), .methodLink RX11 76 yX1_addWhole, .instanceMethod yX1_addWhole, .selects RX1 yX1_addWhole yX1_addWhole, .code yX1_addWhole cX1_addWhole 3 (Option.none : Option Jvm.ClassFile.FieldType), .methodLink RX1 25 yX1_add, .instanceMethod yX1_add, .selects RX1 yX1_add yX1_add, .code yX1_add cX1_add 2 (Option.none : Option Jvm.ClassFile.FieldType), .methodLink RL 37 yX11_load, .instanceMethod yX11_load, .selects RX11 yX11_load yX11_load, .code yX11_load cX11_load 2 (Option.some Jvm.ClassFile.FieldType.int), .methodLink RX11 83 yX4_readTape, .instanceMethod yX4_readTape, .selects RX4 yX4_readTape yX4_readTape, .code yX4_readTape cX4_readTape 1 (Option.some Jvm.ClassFile.FieldType.int), .methodLink RX4 27 yX7_clear, .methodLink RX4 34 yX4_advance]
set_option maxRecDepth 20000 in
theorem tt21_in : ∀ w ∈ tt21, w ∈ tables_1_3 := tt_sub [102, 104, 106, 108, 109, 110, 111, 112, 113, 114, 115, 116, 117, 118, 119, 120, 121, 122, 123, 124, 125, 126, 127, 128, 129] rfl
def tt22 : List Cond := [.instanceMethod yX4_advance, .code yX4_advance cX4_advance 1 (Option.none : Option Jvm.ClassFile.FieldType), .methodLink RX4 126 yX1_length, .methodLink RX4 129 yX1_at, .instanceMethod yX1_at, .selects RX1 yX1_at yX1_at, .code yX1_at cX1_at 2 (Option.some Jvm.ClassFile.FieldType.int), .methodLink RX4 132 yX4_isSpace, .static yX4_isSpace, .code yX4_isSpace cX4_isSpace 1 (Option.some Jvm.ClassFile.FieldType.boolean), .methodLink RX4 136 yX4_isLetter, .static yX4_isLetter, .code yX4_isLetter cX4_isLetter 1 (Option.some Jvm.ClassFile.FieldType.boolean), .methodLink RX4 139 yX4_isDigit, .static yX4_isDigit, .code yX4_isDigit cX4_isDigit 1 (Option.some Jvm.ClassFile.FieldType.boolean), .methodLink RX4 37 yX4_readNumbers, .instanceMethod yX4_readNumbers, .code yX4_readNumbers cX4_readNumbers 1 (Option.some Jvm.ClassFile.FieldType.boolean), .methodLink RX4 52 yX4_skipKeyword, .instanceMethod yX4_skipKeyword, .code yX4_skipKeyword cX4_skipKeyword 2 (Option.some Jvm.ClassFile.FieldType.boolean), .methodLink RX4 80 yX4_isKeyword, .instanceMethod yX4_isKeyword, .code yX4_isKeyword cX4_isKeyword 2 (Option.some Jvm.ClassFile.FieldType.boolean)]
set_option maxRecDepth 20000 in
theorem tt22_in : ∀ w ∈ tt22, w ∈ tables_1_3 := tt_sub [131, 132, 133, 134, 135, 136, 137, 138, 139, 140, 141, 142, 143, 144, 145, 146, 147, 149, 150, 152, 154, 155, 156, 158, 159] rfl
def tt23 : List Cond := [.methodLink RX4 120 yX4_reads, .instanceMethod yX4_reads, .code yX4_reads cX4_reads 3 (Option.some Jvm.ClassFile.FieldType.boolean), .methodLink RX4 142 yJ0_length_8abf5, .methodLink RX4 145 yJ0_charAt_5068e, .methodLink RX4 56 yX4_readNumber, .instanceMethod yX4_readNumber, .code yX4_readNumber cX4_readNumber 5 (Option.some Jvm.ClassFile.FieldType.boolean), .methodLink RX4 114 yX4_digits, .instanceMethod yX4_digits, .code yX4_digits cX4_digits 3 (Option.some Jvm.ClassFile.FieldType.int), .methodLink RX4 117 yX7_setNumber, .methodLink RX4 62 yX4_readShares, .instanceMethod yX4_readShares, .code yX4_readShares cX4_readShares 2 (Option.some Jvm.ClassFile.FieldType.boolean), .methodLink RX4 75 yX4_skipSemicolon, .instanceMethod yX4_skipSemicolon, .code yX4_skipSemicolon cX4_skipSemicolon 1 (Option.some Jvm.ClassFile.FieldType.boolean), .methodLink RX4 41 yX4_readBoats, .instanceMethod yX4_readBoats, .code yX4_readBoats cX4_readBoats 2 (Option.some Jvm.ClassFile.FieldType.boolean), .methodLink RX4 83 yX4_isName, .instanceMethod yX4_isName, .code yX4_isName cX4_isName 1 (Option.some Jvm.ClassFile.FieldType.boolean), .methodLink RX4 123 yX4_isAnyKeyword]
set_option maxRecDepth 20000 in
theorem tt23_in : ∀ w ∈ tt23, w ∈ tables_1_3 := tt_sub [160, 162, 163, 164, 165, 166, 168, 169, 170, 172, 173, 174, 176, 178, 179, 185, 187, 188, 189, 191, 192, 194, 196, 197, 198] rfl
def tt24 : List Cond := [.instanceMethod yX4_isAnyKeyword, .code yX4_isAnyKeyword cX4_isAnyKeyword 1 (Option.some Jvm.ClassFile.FieldType.boolean), .methodLink RX4 86 yX4_letters, .instanceMethod yX4_letters, .code yX4_letters cX4_letters 4 (Option.some Jvm.ClassFile.FieldType.int), .methodLink RX4 90 yX7_boatNamed, .instanceMethod yX7_boatNamed, .selects RX7 yX7_boatNamed yX7_boatNamed, .code yX7_boatNamed cX7_boatNamed 2 (Option.some Jvm.ClassFile.FieldType.int), .methodLink RX7 55 yX7_find, .static yX7_find, .code yX7_find cX7_find 4 (Option.some Jvm.ClassFile.FieldType.int), .methodLink RX4 94 yX7_addBoat, .instanceMethod yX7_addBoat, .selects RX7 yX7_addBoat yX7_addBoat, .code yX7_addBoat cX7_addBoat 2 (Option.none : Option Jvm.ClassFile.FieldType), .methodLink RX4 44 yX4_readPeople, .instanceMethod yX4_readPeople, .code yX4_readPeople cX4_readPeople 2 (Option.some Jvm.ClassFile.FieldType.boolean), .methodLink RX4 102 yX4_readPerson, .instanceMethod yX4_readPerson, .code yX4_readPerson cX4_readPerson 3 (Option.some Jvm.ClassFile.FieldType.boolean), .methodLink RX4 105 yX7_personNamed, .instanceMethod yX7_personNamed, .selects RX7 yX7_personNamed yX7_personNamed]
set_option maxRecDepth 20000 in
theorem tt24_in : ∀ w ∈ tt24, w ∈ tables_1_3 := tt_sub [200, 201, 204, 206, 207, 208, 209, 210, 211, 212, 213, 214, 215, 216, 217, 218, 219, 221, 222, 223, 225, 226, 227, 228, 229] rfl
def tt25 : List Cond := [.code yX7_personNamed cX7_personNamed 2 (Option.some Jvm.ClassFile.FieldType.int), .methodLink RX4 110 yX7_addPerson, .methodLink RX11 89 yX10_beginAnew, .instanceMethod yX10_beginAnew, .selects RX10 yX10_beginAnew yX10_beginAnew, .code yX10_beginAnew cX10_beginAnew 2 (Option.none : Option Jvm.ClassFile.FieldType), .methodLink RX10 39 yX7_copyFrom, .instanceMethod yX7_copyFrom, .selects RX7 yX7_copyFrom yX7_copyFrom, .code yX7_copyFrom cX7_copyFrom 2 (Option.none : Option Jvm.ClassFile.FieldType)]
set_option maxRecDepth 20000 in
theorem tt25_in : ∀ w ∈ tt25, w ∈ tables_1_3 := tt_sub [230, 231, 232, 233, 234, 235, 236, 237, 238, 239] rfl
def tt26 : List Cond := [.methodLink RX11 93 yX3_forget, .instanceMethod yX3_forget, .selects RX3 yX3_forget yX3_forget, .code yX3_forget cX3_forget 1 (Option.none : Option Jvm.ClassFile.FieldType), .methodLink RL 40 yX11_value, .instanceMethod yX11_value, .selects RX11 yX11_value yX11_value, .code yX11_value cX11_value 2 (Option.some Jvm.ClassFile.FieldType.int), .methodLink RX11 232 yX10_seasonOn, .instanceMethod yX10_seasonOn, .selects RX10 yX10_seasonOn yX10_seasonOn, .code yX10_seasonOn cX10_seasonOn 3 (Option.some Jvm.ClassFile.FieldType.int), .methodLink RX10 173 yX7_numberOf, .instanceMethod yX7_numberOf, .selects RX7 yX7_numberOf yX7_numberOf, .code yX7_numberOf cX7_numberOf 2 (Option.some Jvm.ClassFile.FieldType.int), .methodLink RX10 176 yJ9_floorMod_7cf53, .methodLink RX11 235 yX7_boats, .instanceMethod yX7_boats, .selects RX7 yX7_boats yX7_boats, .code yX7_boats cX7_boats 1 (Option.some Jvm.ClassFile.FieldType.int), .methodLink RX11 238 yX2_boatsOut, .instanceMethod yX2_boatsOut, .selects RX2 yX2_boatsOut yX2_boatsOut, .code yX2_boatsOut cX2_boatsOut 3 (Option.some Jvm.ClassFile.FieldType.int)]
set_option maxRecDepth 20000 in
theorem tt26_in : ∀ w ∈ tt26, w ∈ tables_1_4 := tt_sub [1, 2, 3, 4, 5, 6, 7, 8, 9, 10, 11, 12, 13, 14, 15, 16, 17, 18, 19, 20, 21, 22, 23, 24, 25] rfl
def tt27 : List Cond := [.methodLink RX2 77 yX2_isOut, .instanceMethod yX2_isOut, .selects RX2 yX2_isOut yX2_isOut, .code yX2_isOut cX2_isOut 2 (Option.some Jvm.ClassFile.FieldType.boolean), .methodLink RX11 241 yX2_peopleAtSea, .instanceMethod yX2_peopleAtSea, .selects RX2 yX2_peopleAtSea yX2_peopleAtSea, .code yX2_peopleAtSea cX2_peopleAtSea 3 (Option.some Jvm.ClassFile.FieldType.int), .methodLink RX2 70 yX2_isAtSea, .methodLink RX11 244 yX10_needOfVote, .instanceMethod yX10_needOfVote, .selects RX10 yX10_needOfVote yX10_needOfVote, .code yX10_needOfVote cX10_needOfVote 1 (Option.some Jvm.ClassFile.FieldType.int), .methodLink RX10 202 yX2_boatsOut, .methodLink RX10 199 yX10_needOf, .instanceMethod yX10_needOf, .selects RX10 yX10_needOf yX10_needOf, .code yX10_needOf cX10_needOf 5 (Option.some Jvm.ClassFile.FieldType.int), .methodLink RX10 187 yX10_seasonOn, .methodLink RX10 190 yX7_people, .methodLink RX10 193 yJ9_max_7cf53, .methodLink RX11 247 yX9_turnout, .instanceMethod yX9_turnout, .selects RX9 yX9_turnout yX9_turnout, .code yX9_turnout cX9_turnout 1 (Option.some Jvm.ClassFile.FieldType.int)]
set_option maxRecDepth 20000 in
theorem tt27_in : ∀ w ∈ tt27, w ∈ tables_1_4 := tt_sub [26, 27, 28, 29, 30, 31, 32, 33, 34, 35, 36, 37, 38, 39, 40, 41, 42, 43, 44, 45, 46, 47, 48, 49, 50] rfl
def tt28 : List Cond := [.methodLink RX9 64 yX9_countAt, .instanceMethod yX9_countAt, .code yX9_countAt cX9_countAt 4 (Option.some Jvm.ClassFile.FieldType.int), .methodLink RX11 195 yX10_stateOfVote, .instanceMethod yX10_stateOfVote, .selects RX10 yX10_stateOfVote yX10_stateOfVote, .code yX10_stateOfVote cX10_stateOfVote 1 (Option.some Jvm.ClassFile.FieldType.int), .methodLink RX11 253 yX10_resultNow, .instanceMethod yX10_resultNow, .selects RX10 yX10_resultNow yX10_resultNow, .code yX10_resultNow cX10_resultNow 1 (Option.some Jvm.ClassFile.FieldType.int), .methodLink RX10 167 yX10_needOfVote, .methodLink RX10 151 yX10_resultFor, .instanceMethod yX10_resultFor, .code yX10_resultFor cX10_resultFor 2 (Option.some Jvm.ClassFile.FieldType.int), .methodLink RX10 220 yX0_takeFrom, .instanceMethod yX0_takeFrom, .selects RX0 yX0_takeFrom yX0_takeFrom, .code yX0_takeFrom cX0_takeFrom 3 (Option.none : Option Jvm.ClassFile.FieldType), .methodLink RX0 18 yX9_placeOf, .methodLink RX0 24 yX9_basketOf, .instanceMethod yX9_basketOf, .selects RX9 yX9_basketOf yX9_basketOf, .code yX9_basketOf cX9_basketOf 2 (Option.some Jvm.ClassFile.FieldType.int), .methodLink RX10 224 yX0_result]
set_option maxRecDepth 20000 in
theorem tt28_in : ∀ w ∈ tt28, w ∈ tables_1_4 := tt_sub [51, 53, 54, 55, 56, 57, 58, 59, 60, 61, 62, 63, 64, 66, 67, 68, 69, 70, 71, 72, 73, 74, 75, 76, 77] rfl
def tt29 : List Cond := [.instanceMethod yX0_result, .selects RX0 yX0_result yX0_result, .code yX0_result cX0_result 4 (Option.some Jvm.ClassFile.FieldType.int), .methodLink RX0 30 yX0_countAll, .instanceMethod yX0_countAll, .code yX0_countAll cX0_countAll 4 (Option.some Jvm.ClassFile.FieldType.int), .static yX11_isBasket, .code yX11_isBasket cX11_isBasket 1 (Option.some Jvm.ClassFile.FieldType.boolean), .methodLink RX0 34 yJ9_max_7cf53, .methodLink RX11 256 yX9_struckOnes, .instanceMethod yX9_struckOnes, .selects RX9 yX9_struckOnes yX9_struckOnes, .code yX9_struckOnes cX9_struckOnes 1 (Option.some Jvm.ClassFile.FieldType.int), .methodLink RX11 266 yX5_size, .instanceMethod yX5_size, .selects RX5 yX5_size yX5_size, .code yX5_size cX5_size 1 (Option.some Jvm.ClassFile.FieldType.int), .methodLink RX5 32 yJ9_min_7cf53, .methodLink RX11 271 yX9_wrongMask, .instanceMethod yX9_wrongMask, .selects RX9 yX9_wrongMask yX9_wrongMask, .code yX9_wrongMask cX9_wrongMask 3 (Option.some Jvm.ClassFile.FieldType.int), .methodLink RX9 70 yX9_isWrong, .instanceMethod yX9_isWrong, .selects RX9 yX9_isWrong yX9_isWrong]
set_option maxRecDepth 20000 in
theorem tt29_in : ∀ w ∈ tt29, w ∈ tables_1_4 := tt_sub [78, 79, 80, 81, 83, 84, 87, 88, 91, 92, 93, 94, 95, 96, 97, 98, 99, 100, 101, 102, 103, 104, 105, 106, 107] rfl
def tt30 : List Cond := [.code yX9_isWrong cX9_isWrong 2 (Option.some Jvm.ClassFile.FieldType.boolean), .methodLink RX9 49 yX9_reasonOf, .instanceMethod yX9_reasonOf, .selects RX9 yX9_reasonOf yX9_reasonOf, .code yX9_reasonOf cX9_reasonOf 2 (Option.some Jvm.ClassFile.FieldType.int), .methodLink RL 43 yX11_errorPosition, .instanceMethod yX11_errorPosition, .selects RX11 yX11_errorPosition yX11_errorPosition, .code yX11_errorPosition cX11_errorPosition 1 (Option.some Jvm.ClassFile.FieldType.int), .methodLink RL 267 yL_setup, .static yL_setup, .code yL_setup cL_setup 4 (Option.some (Jvm.ClassFile.FieldType.object "java/lang/String")), .classLink RL 46 RJ4, .instantiable RJ4 4, .methodLink RL 50 yJ4_init_a7421, .instanceMethod yJ4_init_a7421, .code yJ4_init_a7421 cJ4_init_a7421 2 (Option.none : Option Jvm.ClassFile.FieldType), .methodLink RJ4 7 yJ5_init_a7421, .instanceMethod yJ5_init_a7421, .code yJ5_init_a7421 cJ5_init_a7421 5 (Option.none : Option Jvm.ClassFile.FieldType), .methodLink RJ5 3 objectInit, .methodLink RJ5 32 yJ0_length_8abf5, .constant RJ5 38 (2147483631 : Int32), .constant RJ5 39 (2147483647 : Int32), .methodLink RJ5 40 yJ0_coder_7d493]
set_option maxRecDepth 20000 in
theorem tt30_in : ∀ w ∈ tt30, w ∈ tables_1_4 := tt_sub [108, 109, 110, 111, 112, 113, 114, 115, 116, 117, 118, 119, 120, 121, 123, 124, 125, 126, 127, 128, 129, 130, 131, 132, 133] rfl
def tt31 : List Cond := [.methodLink RJ5 26 yJ2_newBytesFor_77867, .static yJ2_newBytesFor_77867, .code yJ2_newBytesFor_77867 cJ2_newBytesFor_77867 1 (Option.some (Jvm.ClassFile.FieldType.array Jvm.ClassFile.FieldType.byte)), .methodLink RJ2 11 yJ2_newBytesLength_0f7a4, .static yJ2_newBytesLength_0f7a4, .code yJ2_newBytesLength_0f7a4 cJ2_newBytesLength_0f7a4 1 (Option.some Jvm.ClassFile.FieldType.int), .constant RJ2 20 (1073741823 : Int32), .methodLink RJ5 43 yJ5_append_cf1ce, .instanceMethod yJ5_append_cf1ce, .sameMethod RJ5 RJ5 "append" "(Ljava/lang/String;)Ljava/lang/AbstractStringBuilder;", .selects RJ4 yJ5_append_cf1ce yJ4_append_cf1ce, .instanceMethod yJ4_append_cf1ce, .code yJ4_append_cf1ce cJ4_append_cf1ce 2 (Option.some (Jvm.ClassFile.FieldType.object "java/lang/AbstractStringBuilder")), .methodLink RJ4 23 yJ4_append_15ec4, .instanceMethod yJ4_append_15ec4, .selects RJ4 yJ4_append_15ec4 yJ4_append_15ec4, .code yJ4_append_15ec4 cJ4_append_15ec4 2 (Option.some (Jvm.ClassFile.FieldType.object "java/lang/StringBuilder")), .methodLink RJ4 29 yJ5_append_cf1ce, .superclass RJ4 RJ5, .code yJ5_append_cf1ce cJ5_append_cf1ce 3 (Option.some (Jvm.ClassFile.FieldType.object "java/lang/AbstractStringBuilder")), .methodLink RJ5 204 yJ5_appendNull_278bc, .instanceMethod yJ5_appendNull_278bc, .code yJ5_appendNull_278bc cJ5_appendNull_278bc 3 (Option.some (Jvm.ClassFile.FieldType.object "java/lang/AbstractStringBuilder")), .methodLink RJ5 100 yJ5_ensureCapacityInternal_d00df, .instanceMethod yJ5_ensureCapacityInternal_d00df]
set_option maxRecDepth 20000 in
theorem tt31_in : ∀ w ∈ tt31, w ∈ tables_1_4 := tt_sub [134, 135, 136, 137, 138, 139, 140, 141, 142, 143, 144, 145, 146, 147, 148, 149, 150, 151, 152, 153, 154, 156, 157, 158, 160] rfl
def tt32 : List Cond := [.code yJ5_ensureCapacityInternal_d00df cJ5_ensureCapacityInternal_d00df 3 (Option.none : Option Jvm.ClassFile.FieldType), .methodLink RJ5 104 yJ5_newCapacity_0f7a4, .instanceMethod yJ5_newCapacity_0f7a4, .code yJ5_newCapacity_0f7a4 cJ5_newCapacity_0f7a4 6 (Option.some Jvm.ClassFile.FieldType.int), .methodLink RJ5 114 yJ8_newLength_cabcc, .static yJ8_newLength_cabcc, .code yJ8_newLength_cabcc cJ8_newLength_cabcc 4 (Option.some Jvm.ClassFile.FieldType.int), .methodLink RJ8 194 yJ9_max_7cf53, .constant RJ8 200 (2147483639 : Int32), .methodLink RJ8 201 yJ8_hugeLength_7cf53, .static yJ8_hugeLength_7cf53, .code yJ8_hugeLength_7cf53 cJ8_hugeLength_7cf53 3 (Option.some Jvm.ClassFile.FieldType.int), .methodLink RJ5 108 yJ7_copyOf_9075b, .static yJ7_copyOf_9075b, .code yJ7_copyOf_9075b cJ7_copyOf_9075b 3 (Option.some (Jvm.ClassFile.FieldType.array Jvm.ClassFile.FieldType.byte)), .methodLink RJ7 310 ⟨"[B", "clone", "()Ljava/lang/Object;"⟩, .sameMethod "[B" "java/lang/Object" "clone" "()Ljava/lang/Object;", .native ⟨"java/lang/Object", "clone", "()Ljava/lang/Object;"⟩, .instanceMethod ⟨"java/lang/Object", "clone", "()Ljava/lang/Object;"⟩, .selects "[B" ⟨"[B", "clone", "()Ljava/lang/Object;"⟩ ⟨"java/lang/Object", "clone", "()Ljava/lang/Object;"⟩, .classLink RJ7 311 "[B", .methodLink RJ7 304 yJ9_min_7cf53, .methodLink RJ7 150 ⟨"java/lang/System", "arraycopy", "(Ljava/lang/Object;ILjava/lang/Object;II)V"⟩, .methodLink RJ5 83 yJ5_isLatin1_aae02, .instanceMethod yJ5_isLatin1_aae02]
set_option maxRecDepth 20000 in
theorem tt32_in : ∀ w ∈ tt32, w ∈ tables_1_4 := tt_sub [161, 162, 164, 165, 166, 167, 168, 169, 170, 171, 172, 173, 174, 175, 176, 177, 178, 179, 180, 181, 183, 184, 185, 186, 187] rfl
def tt33 : List Cond := [.sameMethod RJ5 RJ5 "isLatin1" "()Z", .selects RJ4 yJ5_isLatin1_aae02 yJ5_isLatin1_aae02, .code yJ5_isLatin1_aae02 cJ5_isLatin1_aae02 1 (Option.some Jvm.ClassFile.FieldType.boolean), .fieldLink RJ5 18 "java/lang/String" "COMPACT_STRINGS" "Z", .methodLink RJ5 226 yJ2_putCharsAt_cd4e5, .static yJ2_putCharsAt_cd4e5, .code yJ2_putCharsAt_cd4e5 cJ2_putCharsAt_cd4e5 7 (Option.some Jvm.ClassFile.FieldType.int), .methodLink RJ2 96 yJ2_checkBoundsBeginEnd_d044e, .static yJ2_checkBoundsBeginEnd_d044e, .code yJ2_checkBoundsBeginEnd_d044e cJ2_checkBoundsBeginEnd_d044e 3 (Option.none : Option Jvm.ClassFile.FieldType), .methodLink RJ2 241 yJ0_checkBoundsBeginEnd_23922, .static yJ0_checkBoundsBeginEnd_23922, .code yJ0_checkBoundsBeginEnd_23922 cJ0_checkBoundsBeginEnd_23922 3 (Option.none : Option Jvm.ClassFile.FieldType), .methodLink RJ0 1062 yJ3_checkFromToIndex_8c36e, .static yJ3_checkFromToIndex_8c36e, .code yJ3_checkFromToIndex_8c36e cJ3_checkFromToIndex_8c36e 4 (Option.some Jvm.ClassFile.FieldType.int), .methodLink RJ2 111 yJ2_putChar_b72d1, .static yJ2_putChar_b72d1, .code yJ2_putChar_b72d1 cJ2_putChar_b72d1 3 (Option.none : Option Jvm.ClassFile.FieldType), .methodLink RJ5 208 yJ5_putStringAt_47b60, .instanceMethod yJ5_putStringAt_47b60, .code yJ5_putStringAt_47b60 cJ5_putStringAt_47b60 3 (Option.none : Option Jvm.ClassFile.FieldType), .methodLink RJ5 397 yJ5_inflateIfNeededFor_a7421, .instanceMethod yJ5_inflateIfNeededFor_a7421, .code yJ5_inflateIfNeededFor_a7421 cJ5_inflateIfNeededFor_a7421 2 (Option.none : Option Jvm.ClassFile.FieldType)]
set_option maxRecDepth 20000 in
theorem tt33_in : ∀ w ∈ tt33, w ∈ tables_1_4 := tt_sub [188, 189, 190, 191, 192, 193, 194, 195, 196, 197, 198, 199, 200, 201, 202, 203, 204, 205, 206, 207, 209, 210, 211, 213, 214] rfl
def tt34 : List Cond := [.methodLink RJ5 195 yJ5_inflate_da8c8, .instanceMethod yJ5_inflate_da8c8, .code yJ5_inflate_da8c8 cJ5_inflate_da8c8 2 (Option.none : Option Jvm.ClassFile.FieldType), .methodLink RJ5 125 yJ1_inflate_0e8fd, .static yJ1_inflate_0e8fd, .code yJ1_inflate_0e8fd cJ1_inflate_0e8fd 5 (Option.none : Option Jvm.ClassFile.FieldType), .methodLink RJ1 240 yJ2_inflate_0e8fd, .static yJ2_inflate_0e8fd, .code yJ2_inflate_0e8fd cJ2_inflate_0e8fd 6 (Option.none : Option Jvm.ClassFile.FieldType), .methodLink RJ2 173 yJ2_checkBoundsOffCount_d044e, .static yJ2_checkBoundsOffCount_d044e, .code yJ2_checkBoundsOffCount_d044e cJ2_checkBoundsOffCount_d044e 3 (Option.none : Option Jvm.ClassFile.FieldType), .methodLink RJ2 419 yJ0_checkBoundsOffCount_cabcc, .static yJ0_checkBoundsOffCount_cabcc, .code yJ0_checkBoundsOffCount_cabcc cJ0_checkBoundsOffCount_cabcc 3 (Option.some Jvm.ClassFile.FieldType.int), .methodLink RJ0 1065 yJ3_checkFromIndexSize_8c36e, .static yJ3_checkFromIndexSize_8c36e, .code yJ3_checkFromIndexSize_8c36e cJ3_checkFromIndexSize_8c36e 4 (Option.some Jvm.ClassFile.FieldType.int), .methodLink RJ5 399 yJ0_getBytes_840e7, .instanceMethod yJ0_getBytes_840e7, .selects RJ0 yJ0_getBytes_840e7 yJ0_getBytes_840e7, .code yJ0_getBytes_840e7 cJ0_getBytes_840e7 4 (Option.none : Option Jvm.ClassFile.FieldType), .methodLink RJ0 212 ⟨"java/lang/System", "arraycopy", "(Ljava/lang/Object;ILjava/lang/Object;II)V"⟩, .methodLink RJ0 106 yJ1_inflate_0e8fd]
set_option maxRecDepth 20000 in
theorem tt34_in : ∀ w ∈ tt34, w ∈ tables_1_4 := tt_sub [215, 217, 218, 219, 220, 221, 222, 223, 224, 225, 226, 227, 228, 229, 230, 231, 232, 233, 234, 235, 236, 237, 238, 239] rfl
def tt35 : List Cond := [.fieldLink RJ5 15 "java/lang/AbstractStringBuilder" "value" "[B", .fieldLink RJ5 22 "java/lang/AbstractStringBuilder" "coder" "B", .fieldLink RJ0 1048 "java/lang/AbstractStringBuilder" "maybeLatin1" "Z", .fieldLink RJ5 79 "java/lang/AbstractStringBuilder" "count" "I", .lays RJ4 "java/lang/AbstractStringBuilder" "value" "[B", .lays RJ4 "java/lang/AbstractStringBuilder" "coder" "B", .lays RJ4 "java/lang/AbstractStringBuilder" "maybeLatin1" "Z", .lays RJ4 "java/lang/AbstractStringBuilder" "count" "I", .methodLink RL 53 yL_draw, .static yL_draw, .code yL_draw cL_draw 1 (Option.some Jvm.ClassFile.FieldType.int), .constant RL 7 (1103515245 : Int32), .methodLink RL 57 yJ4_append_bf812, .instanceMethod yJ4_append_bf812, .selects RJ4 yJ4_append_bf812 yJ4_append_bf812, .code yJ4_append_bf812 cJ4_append_bf812 2 (Option.some (Jvm.ClassFile.FieldType.object "java/lang/StringBuilder")), .methodLink RJ4 53 yJ5_append_c97b9, .instanceMethod yJ5_append_c97b9, .code yJ5_append_c97b9 cJ5_append_c97b9 4 (Option.some (Jvm.ClassFile.FieldType.object "java/lang/AbstractStringBuilder")), .methodLink RJ5 245 yJ6_stringSize_0f7a4, .static yJ6_stringSize_0f7a4, .code yJ6_stringSize_0f7a4 cJ6_stringSize_0f7a4 4 (Option.some Jvm.ClassFile.FieldType.int), .methodLink RJ5 248 yJ6_getChars_ba4f3, .static yJ6_getChars_ba4f3, .code yJ6_getChars_ba4f3 cJ6_getChars_ba4f3 7 (Option.some Jvm.ClassFile.FieldType.int)]
set_option maxRecDepth 20000 in
theorem tt35_in : ∀ w ∈ tt35, w ∈ tables_1_5 := tt_sub [0, 1, 2, 3, 4, 6, 8, 10, 12, 13, 14, 15, 16, 17, 18, 19, 20, 21, 22, 23, 24, 25, 26, 27, 28] rfl
def tt36 : List Cond := [.fieldLink RJ6 83 "java/lang/Integer" "DigitOnes" "[B", .fieldLink RJ6 87 "java/lang/Integer" "DigitTens" "[B", .methodLink RJ5 251 yJ2_getChars_46870, .static yJ2_getChars_46870, .code yJ2_getChars_46870 cJ2_getChars_46870 5 (Option.some Jvm.ClassFile.FieldType.int), .methodLink RJ2 393 yJ2_getChars_ba4f3, .static yJ2_getChars_ba4f3, .code yJ2_getChars_ba4f3 cJ2_getChars_ba4f3 7 (Option.some Jvm.ClassFile.FieldType.int), .fieldLink RJ2 403 "java/lang/Integer" "DigitOnes" "[B", .fieldLink RJ2 407 "java/lang/Integer" "DigitTens" "[B", .methodLink RL 62 yJ4_append_15ec4, .methodLink RL 65 yJ4_append_cf468, .instanceMethod yJ4_append_cf468, .selects RJ4 yJ4_append_cf468 yJ4_append_cf468, .code yJ4_append_cf468 cJ4_append_cf468 2 (Option.some (Jvm.ClassFile.FieldType.object "java/lang/StringBuilder")), .methodLink RJ4 50 yJ5_append_3fe6f, .instanceMethod yJ5_append_3fe6f, .code yJ5_append_3fe6f cJ5_append_3fe6f 2 (Option.some (Jvm.ClassFile.FieldType.object "java/lang/AbstractStringBuilder")), .methodLink RJ5 191 yJ1_canEncode_fc78d, .static yJ1_canEncode_fc78d, .code yJ1_canEncode_fc78d cJ1_canEncode_fc78d 1 (Option.some Jvm.ClassFile.FieldType.boolean), .methodLink RJ5 197 yJ2_putCharSB_b72d1, .static yJ2_putCharSB_b72d1, .code yJ2_putCharSB_b72d1 cJ2_putCharSB_b72d1 3 (Option.none : Option Jvm.ClassFile.FieldType), .methodLink RL 84 yJ4_init_da8c8]
set_option maxRecDepth 20000 in
theorem tt36_in : ∀ w ∈ tt36, w ∈ tables_1_5 := tt_sub [29, 31, 33, 34, 35, 36, 37, 38, 39, 40, 42, 43, 44, 45, 46, 47, 48, 49, 50, 51, 52, 53, 54, 55, 64] rfl
def tt37 : List Cond := [.instanceMethod yJ4_init_da8c8, .code yJ4_init_da8c8 cJ4_init_da8c8 1 (Option.none : Option Jvm.ClassFile.FieldType), .methodLink RJ4 1 yJ5_init_d00df, .instanceMethod yJ5_init_d00df, .code yJ5_init_d00df cJ5_init_d00df 2 (Option.none : Option Jvm.ClassFile.FieldType), .methodLink RL 87 yJ4_toString_0e30d, .instanceMethod yJ4_toString_0e30d, .selects RJ4 yJ4_toString_0e30d yJ4_toString_0e30d, .code yJ4_toString_0e30d cJ4_toString_0e30d 1 (Option.some (Jvm.ClassFile.FieldType.object "java/lang/String")), .classLink RJ4 18 RJ0, .instantiable RJ0 4, .methodLink RJ4 137 yJ0_init_81219, .instanceMethod yJ0_init_81219, .code yJ0_init_81219 cJ0_init_81219 2 (Option.none : Option Jvm.ClassFile.FieldType), .methodLink RJ0 489 yJ0_init_db425, .instanceMethod yJ0_init_db425, .code yJ0_init_db425 cJ0_init_db425 5 (Option.none : Option Jvm.ClassFile.FieldType), .methodLink RJ0 1 objectInit, .methodLink RJ0 552 yJ5_getValue_6d5f1, .instanceMethod yJ5_getValue_6d5f1, .sameMethod RJ5 RJ5 "getValue" "()[B", .selects RJ4 yJ5_getValue_6d5f1 yJ5_getValue_6d5f1, .code yJ5_getValue_6d5f1 cJ5_getValue_6d5f1 1 (Option.some (Jvm.ClassFile.FieldType.array Jvm.ClassFile.FieldType.byte)), .methodLink RJ0 549 yJ5_length_8abf5, .instanceMethod yJ5_length_8abf5]
set_option maxRecDepth 20000 in
theorem tt37_in : ∀ w ∈ tt37, w ∈ tables_1_5 := tt_sub [65, 66, 67, 68, 69, 71, 72, 73, 74, 75, 76, 77, 78, 79, 80, 81, 82, 83, 84, 85, 86, 87, 88, 89, 90] rfl
def tt38 : List Cond := [.sameMethod RJ5 RJ5 "length" "()I", .selects RJ4 yJ5_length_8abf5 yJ4_length_8abf5, .instanceMethod yJ4_length_8abf5, .code yJ4_length_8abf5 cJ4_length_8abf5 1 (Option.some Jvm.ClassFile.FieldType.int), .methodLink RJ4 343 yJ5_length_8abf5, .code yJ5_length_8abf5 cJ5_length_8abf5 1 (Option.some Jvm.ClassFile.FieldType.int), .methodLink RJ0 1047 yJ5_isLatin1_aae02, .methodLink RJ0 54 yJ7_copyOfRange_39247, .static yJ7_copyOfRange_39247, .code yJ7_copyOfRange_39247 cJ7_copyOfRange_39247 3 (Option.some (Jvm.ClassFile.FieldType.array Jvm.ClassFile.FieldType.byte)), .methodLink RJ7 339 yJ7_copyOfRangeByte_39247, .static yJ7_copyOfRangeByte_39247, .code yJ7_copyOfRangeByte_39247 cJ7_copyOfRangeByte_39247 5 (Option.some (Jvm.ClassFile.FieldType.array Jvm.ClassFile.FieldType.byte)), .methodLink RJ7 343 yJ7_checkLength_df160, .static yJ7_checkLength_df160, .code yJ7_checkLength_df160 cJ7_checkLength_df160 2 (Option.none : Option Jvm.ClassFile.FieldType), .methodLink RJ0 1051 yJ2_compress_39247, .static yJ2_compress_39247, .code yJ2_compress_39247 cJ2_compress_39247 6 (Option.some (Jvm.ClassFile.FieldType.array Jvm.ClassFile.FieldType.byte)), .methodLink RJ2 123 yJ2_compress_5af95, .static yJ2_compress_5af95, .code yJ2_compress_5af95 cJ2_compress_5af95 7 (Option.some Jvm.ClassFile.FieldType.int), .methodLink RJ2 126 yJ7_copyOfRange_39247, .methodLink RJ0 47 yJ2_coderFromArrayLen_85cad, .static yJ2_coderFromArrayLen_85cad]
set_option maxRecDepth 20000 in
theorem tt38_in : ∀ w ∈ tt38, w ∈ tables_1_5 := tt_sub [91, 92, 93, 94, 95, 96, 97, 98, 99, 100, 101, 102, 103, 104, 105, 106, 107, 108, 109, 110, 111, 112, 113, 114, 115] rfl
def tt39 : List Cond := [.code yJ2_coderFromArrayLen_85cad cJ2_coderFromArrayLen_85cad 2 (Option.some Jvm.ClassFile.FieldType.byte), .fieldLink RJ0 9 "java/lang/String" "value" "[B", .fieldLink RJ0 15 "java/lang/String" "coder" "B", .laysFinal RJ0 "java/lang/String" "value" "[B", .laysFinal RJ0 "java/lang/String" "coder" "B", .lays RJ0 "java/lang/String" "hash" "I", .lays RJ0 "java/lang/String" "hashIsZero" "Z", .superclass RJ0 "java/lang/Object", .methodLink RL 255 yL_acts, .static yL_acts, .code yL_acts cL_acts 6 (Option.some Jvm.ClassFile.FieldType.int), .methodLink RL 109 yX11_sail, .instanceMethod yX11_sail, .selects RX11 yX11_sail yX11_sail, .code yX11_sail cX11_sail 3 (Option.some Jvm.ClassFile.FieldType.int), .methodLink RX11 101 yX11_isBoat, .instanceMethod yX11_isBoat, .code yX11_isBoat cX11_isBoat 2 (Option.some Jvm.ClassFile.FieldType.boolean), .methodLink RX11 105 yX11_isDays, .static yX11_isDays, .code yX11_isDays cX11_isDays 1 (Option.some Jvm.ClassFile.FieldType.boolean), .methodLink RX11 112 yX2_isOut, .methodLink RX11 121 yX10_setOut, .instanceMethod yX10_setOut, .selects RX10 yX10_setOut yX10_setOut]
set_option maxRecDepth 20000 in
theorem tt39_in : ∀ w ∈ tt39, w ∈ tables_1_5 := tt_sub [116, 117, 118, 119, 121, 123, 125, 127, 128, 129, 130, 131, 132, 133, 134, 135, 137, 138, 139, 140, 141, 142, 143, 144, 145] rfl
def tt40 : List Cond := [.code yX10_setOut cX10_setOut 5 (Option.some Jvm.ClassFile.FieldType.int), .methodLink RX10 50 yX2_leave, .instanceMethod yX2_leave, .selects RX2 yX2_leave yX2_leave, .code yX2_leave cX2_leave 4 (Option.some Jvm.ClassFile.FieldType.int), .methodLink RX2 62 yX2_sailedOf, .instanceMethod yX2_sailedOf, .selects RX2 yX2_sailedOf yX2_sailedOf, .code yX2_sailedOf cX2_sailedOf 2 (Option.some Jvm.ClassFile.FieldType.int), .methodLink RX2 65 yX2_boatOf, .methodLink RX2 67 yX2_aboard, .instanceMethod yX2_aboard, .selects RX2 yX2_aboard yX2_aboard, .code yX2_aboard cX2_aboard 4 (Option.some Jvm.ClassFile.FieldType.int), .methodLink RL 113 yX11_delay, .instanceMethod yX11_delay, .selects RX11 yX11_delay yX11_delay, .code yX11_delay cX11_delay 3 (Option.some Jvm.ClassFile.FieldType.int), .methodLink RX11 125 yX2_moveBack, .instanceMethod yX2_moveBack, .selects RX2 yX2_moveBack yX2_moveBack, .code yX2_moveBack cX2_moveBack 3 (Option.none : Option Jvm.ClassFile.FieldType), .methodLink RX2 59 yX2_backOf, .methodLink RX11 129 yX2_backOf, .methodLink RL 116 yX11_comeHome]
set_option maxRecDepth 20000 in
theorem tt40_in : ∀ w ∈ tt40, w ∈ tables_1_5 := tt_sub [146, 147, 148, 149, 150, 152, 153, 154, 155, 156, 157, 158, 159, 160, 161, 162, 163, 164, 165, 166, 167, 168, 169, 170, 171] rfl
def tt41 : List Cond := [.instanceMethod yX11_comeHome, .selects RX11 yX11_comeHome yX11_comeHome, .code yX11_comeHome cX11_comeHome 2 (Option.some Jvm.ClassFile.FieldType.int), .methodLink RX11 133 yX10_bringHome, .instanceMethod yX10_bringHome, .selects RX10 yX10_bringHome yX10_bringHome, .code yX10_bringHome cX10_bringHome 3 (Option.some Jvm.ClassFile.FieldType.int), .methodLink RX10 66 yX2_arrive, .instanceMethod yX2_arrive, .selects RX2 yX2_arrive yX2_arrive, .code yX2_arrive cX2_arrive 4 (Option.some Jvm.ClassFile.FieldType.int), .methodLink RL 119 yX11_join, .instanceMethod yX11_join, .selects RX11 yX11_join yX11_join, .code yX11_join cX11_join 4 (Option.some Jvm.ClassFile.FieldType.int), .methodLink RX11 145 yX2_assign, .instanceMethod yX2_assign, .selects RX2 yX2_assign yX2_assign, .code yX2_assign cX2_assign 3 (Option.none : Option Jvm.ClassFile.FieldType), .methodLink RL 125 yX11_give, .instanceMethod yX11_give, .selects RX11 yX11_give yX11_give, .code yX11_give cX11_give 4 (Option.some Jvm.ClassFile.FieldType.int), .methodLink RX11 155 yX11_isBasket, .methodLink RX11 162 yX9_placeOf]
set_option maxRecDepth 20000 in
theorem tt41_in : ∀ w ∈ tt41, w ∈ tables_1_5 := tt_sub [172, 173, 174, 175, 176, 177, 178, 179, 180, 181, 182, 183, 184, 185, 186, 187, 188, 189, 190, 191, 192, 193, 194, 195, 196] rfl
def tt42 : List Cond := [.methodLink RX11 167 yX9_handTo, .instanceMethod yX9_handTo, .selects RX9 yX9_handTo yX9_handTo, .code yX9_handTo cX9_handTo 4 (Option.none : Option Jvm.ClassFile.FieldType), .methodLink RL 129 yX11_takeBack, .instanceMethod yX11_takeBack, .selects RX11 yX11_takeBack yX11_takeBack, .code yX11_takeBack cX11_takeBack 4 (Option.some Jvm.ClassFile.FieldType.int), .methodLink RX11 179 yX9_carrierOf, .methodLink RX11 182 yX9_handBack, .instanceMethod yX9_handBack, .selects RX9 yX9_handBack yX9_handBack, .code yX9_handBack cX9_handBack 2 (Option.none : Option Jvm.ClassFile.FieldType), .methodLink RL 132 yX11_lay, .instanceMethod yX11_lay, .selects RX11 yX11_lay yX11_lay, .code yX11_lay cX11_lay 5 (Option.some Jvm.ClassFile.FieldType.int), .methodLink RX11 185 yX11_refusalToLay, .instanceMethod yX11_refusalToLay, .code yX11_refusalToLay cX11_refusalToLay 4 (Option.some Jvm.ClassFile.FieldType.int), .methodLink RX11 384 yX9_isHadBy, .instanceMethod yX9_isHadBy, .selects RX9 yX9_isHadBy yX9_isHadBy, .code yX9_isHadBy cX9_isHadBy 3 (Option.some Jvm.ClassFile.FieldType.boolean), .methodLink RX11 189 yX10_putIntoBasket]
set_option maxRecDepth 20000 in
theorem tt42_in : ∀ w ∈ tt42, w ∈ tables_1_5 := tt_sub [197, 198, 199, 200, 201, 202, 203, 204, 205, 206, 207, 208, 209, 210, 211, 212, 213, 214, 216, 217, 218, 219, 220, 221, 222] rfl
def tt43 : List Cond := [.instanceMethod yX10_putIntoBasket, .selects RX10 yX10_putIntoBasket yX10_putIntoBasket, .code yX10_putIntoBasket cX10_putIntoBasket 4 (Option.some Jvm.ClassFile.FieldType.int), .methodLink RX10 106 yX10_reasonFor, .instanceMethod yX10_reasonFor, .selects RX10 yX10_reasonFor yX10_reasonFor, .code yX10_reasonFor cX10_reasonFor 5 (Option.some Jvm.ClassFile.FieldType.int), .methodLink RX10 214 yX9_laidForOthers, .methodLink RX10 217 yX9_boundTo, .instanceMethod yX9_boundTo, .selects RX9 yX9_boundTo yX9_boundTo, .code yX9_boundTo cX9_boundTo 2 (Option.some Jvm.ClassFile.FieldType.int), .methodLink RX10 110 yX9_putInto, .instanceMethod yX9_putInto, .selects RX9 yX9_putInto yX9_putInto, .code yX9_putInto cX9_putInto 5 (Option.none : Option Jvm.ClassFile.FieldType), .methodLink RX10 116 yX9_countIn]
set_option maxRecDepth 20000 in
theorem tt43_in : ∀ w ∈ tt43, w ∈ tables_1_5 := tt_sub [223, 224, 225, 226, 227, 228, 229, 230, 231, 232, 233, 234, 235, 236, 237, 238, 239] rfl
def tt44 : List Cond := [.instanceMethod yX9_countIn, .selects RX9 yX9_countIn yX9_countIn, .code yX9_countIn cX9_countIn 2 (Option.some Jvm.ClassFile.FieldType.int), .methodLink RX9 56 yX9_maskIn, .instanceMethod yX9_maskIn, .selects RX9 yX9_maskIn yX9_maskIn, .code yX9_maskIn cX9_maskIn 4 (Option.some Jvm.ClassFile.FieldType.int), .methodLink RX9 67 yX9_basketOf, .methodLink RX9 59 yJ6_bitCount_0f7a4, .methodLink RL 135 yX11_stick, .instanceMethod yX11_stick, .selects RX11 yX11_stick yX11_stick, .code yX11_stick cX11_stick 3 (Option.some Jvm.ClassFile.FieldType.int), .methodLink RX11 292 yX9_boundTo, .methodLink RX11 295 yX9_basketOf, .methodLink RX11 298 yX9_dayOf, .instanceMethod yX9_dayOf, .selects RX9 yX9_dayOf yX9_dayOf, .code yX9_dayOf cX9_dayOf 2 (Option.some Jvm.ClassFile.FieldType.int), .methodLink RX11 301 yX9_reasonOf, .methodLink RL 138 yX11_contest, .instanceMethod yX11_contest, .selects RX11 yX11_contest yX11_contest, .code yX11_contest cX11_contest 3 (Option.some Jvm.ClassFile.FieldType.int), .methodLink RX11 198 yX10_judge]
set_option maxRecDepth 20000 in
theorem tt44_in : ∀ w ∈ tt44, w ∈ tables_1_6 := tt_sub [0, 1, 2, 3, 4, 5, 6, 7, 8, 9, 10, 11, 12, 13, 14, 15, 16, 17, 18, 19, 20, 21, 22, 23, 24] rfl
def tt45 : List Cond := [.instanceMethod yX10_judge, .selects RX10 yX10_judge yX10_judge, .code yX10_judge cX10_judge 5 (Option.some Jvm.ClassFile.FieldType.int), .methodLink RX10 119 yX9_reasonOf, .methodLink RX10 122 yX2_addFault, .instanceMethod yX2_addFault, .selects RX2 yX2_addFault yX2_addFault, .code yX2_addFault cX2_addFault 2 (Option.none : Option Jvm.ClassFile.FieldType), .methodLink RX2 56 yX2_faultsOf, .methodLink RX10 125 yX2_faultsOf, .methodLink RX10 128 yX10_resultNow, .methodLink RX10 131 yX10_strike, .instanceMethod yX10_strike, .code yX10_strike cX10_strike 2 (Option.none : Option Jvm.ClassFile.FieldType), .methodLink RX10 143 yX9_strike, .instanceMethod yX9_strike, .selects RX9 yX9_strike yX9_strike, .code yX9_strike cX9_strike 2 (Option.none : Option Jvm.ClassFile.FieldType), .methodLink RX10 134 yX10_correctResult, .instanceMethod yX10_correctResult, .code yX10_correctResult cX10_correctResult 3 (Option.none : Option Jvm.ClassFile.FieldType), .methodLink RX10 157 yX9_turnout, .methodLink RX10 160 yX5_setPart, .instanceMethod yX5_setPart, .selects RX5 yX5_setPart yX5_setPart]
set_option maxRecDepth 20000 in
theorem tt45_in : ∀ w ∈ tt45, w ∈ tables_1_6 := tt_sub [25, 26, 27, 28, 29, 30, 31, 32, 33, 34, 35, 36, 38, 39, 40, 41, 42, 43, 44, 46, 47, 48, 49, 50, 51] rfl
def tt46 : List Cond := [.code yX5_setPart cX5_setPart 4 (Option.none : Option Jvm.ClassFile.FieldType), .methodLink RX5 47 yX5_has, .instanceMethod yX5_has, .selects RX5 yX5_has yX5_has, .code yX5_has cX5_has 2 (Option.some Jvm.ClassFile.FieldType.boolean), .methodLink RX5 43 yX5_oldest, .instanceMethod yX5_oldest, .selects RX5 yX5_oldest yX5_oldest, .code yX5_oldest cX5_oldest 1 (Option.some Jvm.ClassFile.FieldType.int), .methodLink RX10 164 yX10_inLog, .static yX10_inLog, .code yX10_inLog cX10_inLog 1 (Option.some Jvm.ClassFile.FieldType.int), .methodLink RL 141 yX11_close, .instanceMethod yX11_close, .selects RX11 yX11_close yX11_close, .code yX11_close cX11_close 1 (Option.some Jvm.ClassFile.FieldType.int), .methodLink RX11 201 yX10_endVote, .instanceMethod yX10_endVote, .selects RX10 yX10_endVote yX10_endVote, .code yX10_endVote cX10_endVote 3 (Option.some Jvm.ClassFile.FieldType.int), .methodLink RL 144 yX11_recount, .instanceMethod yX11_recount, .selects RX11 yX11_recount yX11_recount, .code yX11_recount cX11_recount 1 (Option.some Jvm.ClassFile.FieldType.int), .methodLink RX11 207 yX7_numberOf]
set_option maxRecDepth 20000 in
theorem tt46_in : ∀ w ∈ tt46, w ∈ tables_1_6 := tt_sub [52, 53, 54, 55, 56, 57, 58, 59, 60, 62, 63, 64, 65, 66, 67, 68, 69, 70, 71, 72, 73, 74, 75, 76, 77] rfl
def tt47 : List Cond := [.methodLink RX11 210 yX10_strikeAllWrong, .instanceMethod yX10_strikeAllWrong, .selects RX10 yX10_strikeAllWrong yX10_strikeAllWrong, .code yX10_strikeAllWrong cX10_strikeAllWrong 4 (Option.some Jvm.ClassFile.FieldType.int), .methodLink RX10 137 yX9_isWrong, .methodLink RL 147 yX11_pass, .instanceMethod yX11_pass, .selects RX11 yX11_pass yX11_pass, .code yX11_pass cX11_pass 2 (Option.some Jvm.ClassFile.FieldType.int), .methodLink RX11 213 yX10_letDaysPass, .instanceMethod yX10_letDaysPass, .selects RX10 yX10_letDaysPass yX10_letDaysPass, .code yX10_letDaysPass cX10_letDaysPass 4 (Option.some Jvm.ClassFile.FieldType.int), .methodLink RX10 70 yX2_countDayAtSea, .instanceMethod yX2_countDayAtSea, .selects RX2 yX2_countDayAtSea yX2_countDayAtSea, .code yX2_countDayAtSea cX2_countDayAtSea 2 (Option.none : Option Jvm.ClassFile.FieldType), .methodLink RX2 74 yX2_daysAtSeaOf, .methodLink RX10 73 yX10_bringHomeTodays, .instanceMethod yX10_bringHomeTodays, .code yX10_bringHomeTodays cX10_bringHomeTodays 3 (Option.some Jvm.ClassFile.FieldType.int), .methodLink RX10 77 yX2_isOut, .methodLink RX10 84 yX10_bringHome, .methodLink RL 248 yL_stands, .static yL_stands]
set_option maxRecDepth 20000 in
theorem tt47_in : ∀ w ∈ tt47, w ∈ tables_1_6 := tt_sub [78, 79, 80, 81, 82, 83, 84, 85, 86, 87, 88, 89, 90, 91, 92, 93, 94, 95, 96, 98, 99, 100, 101, 102, 103] rfl
def tt48 : List Cond := [.code yL_stands cL_stands 12 (Option.some Jvm.ClassFile.FieldType.boolean), .methodLink RL 150 yX11_agrees, .instanceMethod yX11_agrees, .selects RX11 yX11_agrees yX11_agrees, .code yX11_agrees cX11_agrees 1 (Option.some Jvm.ClassFile.FieldType.boolean), .methodLink RL 157 yX11_carries, .instanceMethod yX11_carries, .selects RX11 yX11_carries yX11_carries, .code yX11_carries cX11_carries 2 (Option.some Jvm.ClassFile.FieldType.int), .methodLink RL 160 yX11_owners, .instanceMethod yX11_owners, .selects RX11 yX11_owners yX11_owners, .code yX11_owners cX11_owners 2 (Option.some Jvm.ClassFile.FieldType.int), .methodLink RX11 329 yX9_maskIn, .methodLink RL 163 yJ6_bitCount_0f7a4, .methodLink RL 168 yX11_boat, .instanceMethod yX11_boat, .selects RX11 yX11_boat yX11_boat, .code yX11_boat cX11_boat 3 (Option.some Jvm.ClassFile.FieldType.int), .methodLink RX11 283 yX2_aboard, .methodLink RX11 286 yX2_belongingTo, .instanceMethod yX2_belongingTo, .selects RX2 yX2_belongingTo yX2_belongingTo, .code yX2_belongingTo cX2_belongingTo 4 (Option.some Jvm.ClassFile.FieldType.int), .methodLink RX11 289 yX2_sailedOf]
set_option maxRecDepth 20000 in
theorem tt48_in : ∀ w ∈ tt48, w ∈ tables_1_6 := tt_sub [104, 105, 106, 107, 108, 109, 110, 111, 112, 113, 114, 115, 116, 117, 118, 119, 120, 121, 122, 123, 124, 125, 126, 127, 128] rfl
def tt49 : List Cond := [.methodLink RL 171 yX11_needIfHome, .instanceMethod yX11_needIfHome, .selects RX11 yX11_needIfHome yX11_needIfHome, .code yX11_needIfHome cX11_needIfHome 2 (Option.some Jvm.ClassFile.FieldType.int), .methodLink RX11 335 yX10_needOf, .methodLink RL 174 yX11_needIn, .instanceMethod yX11_needIn, .selects RX11 yX11_needIn yX11_needIn, .code yX11_needIn cX11_needIn 2 (Option.some Jvm.ClassFile.FieldType.int), .methodLink RX11 352 yX10_needBehind, .instanceMethod yX10_needBehind, .selects RX10 yX10_needBehind yX10_needBehind, .code yX10_needBehind cX10_needBehind 3 (Option.some Jvm.ClassFile.FieldType.int), .methodLink RX10 196 yX2_boatsOutOn, .instanceMethod yX2_boatsOutOn, .selects RX2 yX2_boatsOutOn yX2_boatsOutOn, .code yX2_boatsOutOn cX2_boatsOutOn 4 (Option.some Jvm.ClassFile.FieldType.int), .methodLink RL 177 yX11_basket, .instanceMethod yX11_basket, .selects RX11 yX11_basket yX11_basket, .code yX11_basket cX11_basket 2 (Option.some Jvm.ClassFile.FieldType.int), .methodLink RX11 304 yX9_countIn, .methodLink RL 180 yX11_share, .instanceMethod yX11_share, .selects RX11 yX11_share yX11_share]
set_option maxRecDepth 20000 in
theorem tt49_in : ∀ w ∈ tt49, w ∈ tables_1_6 := tt_sub [129, 130, 131, 132, 133, 134, 135, 136, 137, 138, 139, 140, 141, 142, 143, 144, 145, 146, 147, 148, 149, 150, 151, 152, 153] rfl
def tt50 : List Cond := [.code yX11_share cX11_share 3 (Option.some Jvm.ClassFile.FieldType.float), .constantFloat RX11 364 (3212836864 : UInt32), .methodLink RL 184 yX11_number, .instanceMethod yX11_number, .selects RX11 yX11_number yX11_number, .code yX11_number cX11_number 2 (Option.some Jvm.ClassFile.FieldType.int), .methodLink RL 187 yJ9_max_7cf53, .methodLink RL 192 yX11_wrongOnes, .instanceMethod yX11_wrongOnes, .selects RX11 yX11_wrongOnes yX11_wrongOnes, .code yX11_wrongOnes cX11_wrongOnes 1 (Option.some Jvm.ClassFile.FieldType.int), .methodLink RL 195 yX11_seafaring, .instanceMethod yX11_seafaring, .selects RX11 yX11_seafaring yX11_seafaring, .code yX11_seafaring cX11_seafaring 3 (Option.some Jvm.ClassFile.FieldType.double), .methodLink RX11 365 yX2_daysAtSeaOfAll, .instanceMethod yX2_daysAtSeaOfAll, .selects RX2 yX2_daysAtSeaOfAll yX2_daysAtSeaOfAll, .code yX2_daysAtSeaOfAll cX2_daysAtSeaOfAll 4 (Option.some Jvm.ClassFile.FieldType.long), .methodLink RL 199 yX11_leads, .instanceMethod yX11_leads, .selects RX11 yX11_leads yX11_leads, .code yX11_leads cX11_leads 1 (Option.some Jvm.ClassFile.FieldType.int), .methodLink RL 202 yL_isDue, .static yL_isDue]
set_option maxRecDepth 20000 in
theorem tt50_in : ∀ w ∈ tt50, w ∈ tables_1_6 := tt_sub [154, 155, 156, 157, 158, 159, 160, 161, 162, 163, 164, 165, 166, 167, 168, 169, 170, 171, 172, 173, 174, 175, 176, 177, 178] rfl
def tt51 : List Cond := [.code yL_isDue cL_isDue 10 (Option.some Jvm.ClassFile.FieldType.boolean), .methodLink RL 209 yJ6_lowestOneBit_0f7a4, .static yJ6_lowestOneBit_0f7a4, .code yJ6_lowestOneBit_0f7a4 cJ6_lowestOneBit_0f7a4 1 (Option.some Jvm.ClassFile.FieldType.int), .methodLink RL 206 yX11_truly, .instanceMethod yX11_truly, .selects RX11 yX11_truly yX11_truly, .code yX11_truly cX11_truly 1 (Option.some Jvm.ClassFile.FieldType.int), .methodLink RX11 338 yX10_resultOfRightOnes, .instanceMethod yX10_resultOfRightOnes, .selects RX10 yX10_resultOfRightOnes yX10_resultOfRightOnes, .code yX10_resultOfRightOnes cX10_resultOfRightOnes 2 (Option.some Jvm.ClassFile.FieldType.int), .methodLink RX10 227 yX0_leaveOut, .instanceMethod yX0_leaveOut, .selects RX0 yX0_leaveOut yX0_leaveOut, .code yX0_leaveOut cX0_leaveOut 2 (Option.none : Option Jvm.ClassFile.FieldType), .methodLink RL 271 yL_foretold, .static yL_foretold, .code yL_foretold cL_foretold 19 (Option.some Jvm.ClassFile.FieldType.boolean), .methodLink RL 224 yL_told, .static yL_told, .code yL_told cL_told 4 (Option.some (Jvm.ClassFile.FieldType.object "java/lang/String")), .methodLink RL 212 yL_text, .static yL_text, .code yL_text cL_text 5 (Option.some (Jvm.ClassFile.FieldType.object "java/lang/String"))]
set_option maxRecDepth 20000 in
theorem tt51_in : ∀ w ∈ tt51, w ∈ tables_1_6 := tt_sub [179, 180, 181, 182, 183, 184, 185, 186, 187, 188, 189, 190, 191, 192, 193, 194, 195, 196, 197, 198, 199, 200, 201, 202, 203] rfl
def tt52 : List Cond := [.methodLink RL 91 yX11_viewLength, .instanceMethod yX11_viewLength, .selects RX11 yX11_viewLength yX11_viewLength, .code yX11_viewLength cX11_viewLength 1 (Option.some Jvm.ClassFile.FieldType.int), .methodLink RX11 369 yX6_writeView, .instanceMethod yX6_writeView, .selects RX6 yX6_writeView yX6_writeView, .code yX6_writeView cX6_writeView 4 (Option.some (Jvm.ClassFile.FieldType.object "StickVotes$Bytes")), .methodLink RX6 20 yX1_cutTo, .methodLink RX6 23 yX7_people, .methodLink RX6 29 yX7_personName, .instanceMethod yX7_personName, .selects RX7 yX7_personName yX7_personName, .code yX7_personName cX7_personName 2 (Option.some Jvm.ClassFile.FieldType.int), .methodLink RX6 33 yX1_addName, .instanceMethod yX1_addName, .selects RX1 yX1_addName yX1_addName, .code yX1_addName cX1_addName 4 (Option.none : Option Jvm.ClassFile.FieldType), .methodLink RX6 36 yX1_add, .methodLink RX6 45 yX6_writeStick, .instanceMethod yX6_writeStick, .code yX6_writeStick cX6_writeStick 6 (Option.none : Option Jvm.ClassFile.FieldType), .methodLink RX6 65 yX9_carrierOf, .methodLink RX6 70 yX9_basketOf, .methodLink RX6 73 yX9_placeOf]
set_option maxRecDepth 20000 in
theorem tt52_in : ∀ w ∈ tt52, w ∈ tables_1_6 := tt_sub [204, 205, 206, 207, 208, 209, 210, 211, 212, 213, 214, 215, 216, 217, 218, 219, 220, 221, 222, 223, 225, 226, 227, 228, 229] rfl
def tt53 : List Cond := [.methodLink RX6 76 yX6_placeWord, .static yX6_placeWord, .code yX6_placeWord cX6_placeWord 1 (Option.some (Jvm.ClassFile.FieldType.object "java/lang/String")), .methodLink RX6 61 yX1_addText, .instanceMethod yX1_addText, .selects RX1 yX1_addText yX1_addText]
set_option maxRecDepth 20000 in
theorem tt53_in : ∀ w ∈ tt53, w ∈ tables_1_6 := tt_sub [230, 231, 232, 237, 238, 239] rfl
def tt54 : List Cond := [.code yX1_addText cX1_addText 3 (Option.none : Option Jvm.ClassFile.FieldType), .methodLink RX1 29 yJ0_length_8abf5, .methodLink RX1 34 yJ0_charAt_5068e, .methodLink RX6 80 yX6_writeNumber, .instanceMethod yX6_writeNumber, .code yX6_writeNumber cX6_writeNumber 2 (Option.none : Option Jvm.ClassFile.FieldType), .methodLink RX6 103 yX1_addNumber, .instanceMethod yX1_addNumber, .selects RX1 yX1_addNumber yX1_addNumber, .code yX1_addNumber cX1_addNumber 7 (Option.none : Option Jvm.ClassFile.FieldType), .constantLong RX1 40 (10 : Int64), .constantLong RX1 42 (48 : Int64), .methodLink RX6 53 yX2_isAtSea, .methodLink RL 94 yX11_storyLength, .instanceMethod yX11_storyLength, .selects RX11 yX11_storyLength yX11_storyLength, .code yX11_storyLength cX11_storyLength 1 (Option.some Jvm.ClassFile.FieldType.int), .methodLink RX11 376 yX6_writeStory, .instanceMethod yX6_writeStory, .selects RX6 yX6_writeStory yX6_writeStory, .code yX6_writeStory cX6_writeStory 4 (Option.some (Jvm.ClassFile.FieldType.object "StickVotes$Bytes")), .methodLink RX6 91 yX5_size, .methodLink RX6 96 yX5_oldest, .methodLink RX6 99 yX5_part, .instanceMethod yX5_part]
set_option maxRecDepth 20000 in
theorem tt54_in : ∀ w ∈ tt54, w ∈ tables_1_7 := tt_sub [0, 1, 2, 3, 5, 6, 7, 8, 9, 10, 11, 12, 13, 15, 16, 17, 18, 19, 20, 21, 22, 23, 24, 25, 26] rfl
def tt55 : List Cond := [.selects RX5 yX5_part yX5_part, .code yX5_part cX5_part 3 (Option.some Jvm.ClassFile.FieldType.int), .methodLink RX6 106 yX6_kindWord, .static yX6_kindWord, .code yX6_kindWord cX6_kindWord 1 (Option.some (Jvm.ClassFile.FieldType.object "java/lang/String")), .methodLink RL 97 yX11_setupLength, .instanceMethod yX11_setupLength, .selects RX11 yX11_setupLength yX11_setupLength, .code yX11_setupLength cX11_setupLength 1 (Option.some Jvm.ClassFile.FieldType.int), .methodLink RX11 380 yX6_writeSetup, .instanceMethod yX6_writeSetup, .selects RX6 yX6_writeSetup yX6_writeSetup, .code yX6_writeSetup cX6_writeSetup 4 (Option.some (Jvm.ClassFile.FieldType.object "StickVotes$Bytes")), .methodLink RX6 121 yX6_writeNumbers, .instanceMethod yX6_writeNumbers, .code yX6_writeNumbers cX6_writeNumbers 3 (Option.none : Option Jvm.ClassFile.FieldType), .methodLink RX6 139 yX7_numberOf, .methodLink RX6 125 yX7_boats, .methodLink RX6 130 yX7_boatName, .instanceMethod yX7_boatName, .selects RX7 yX7_boatName yX7_boatName, .code yX7_boatName cX7_boatName 2 (Option.some Jvm.ClassFile.FieldType.int), .methodLink RX6 133 yX6_writePerson, .instanceMethod yX6_writePerson, .code yX6_writePerson cX6_writePerson 5 (Option.none : Option Jvm.ClassFile.FieldType)]
set_option maxRecDepth 20000 in
theorem tt55_in : ∀ w ∈ tt55, w ∈ tables_1_7 := tt_sub [27, 28, 30, 31, 32, 39, 40, 41, 42, 43, 44, 45, 46, 47, 49, 50, 52, 59, 61, 62, 63, 64, 65, 67, 68] rfl
def tt56 : List Cond := [.methodLink RX6 154 yX2_boatOf, .methodLink RL 100 yX11_viewByte, .instanceMethod yX11_viewByte, .selects RX11 yX11_viewByte yX11_viewByte, .code yX11_viewByte cX11_viewByte 2 (Option.some Jvm.ClassFile.FieldType.int), .methodLink RX11 373 yX1_at, .methodLink RL 103 yX11_storyByte, .instanceMethod yX11_storyByte, .selects RX11 yX11_storyByte yX11_storyByte, .code yX11_storyByte cX11_storyByte 2 (Option.some Jvm.ClassFile.FieldType.int), .methodLink RL 106 yX11_setupByte, .instanceMethod yX11_setupByte, .selects RX11 yX11_setupByte yX11_setupByte, .code yX11_setupByte cX11_setupByte 2 (Option.some Jvm.ClassFile.FieldType.int), .methodLink RL 218 yJ9_min_7cf53, .methodLink RL 221 yX11_past, .instanceMethod yX11_past, .selects RX11 yX11_past yX11_past, .code yX11_past cX11_past 3 (Option.some Jvm.ClassFile.FieldType.int), .methodLink RX11 314 yX5_part, .methodLink RL 228 yX11_why, .instanceMethod yX11_why, .selects RX11 yX11_why yX11_why, .code yX11_why cX11_why 5 (Option.some Jvm.ClassFile.FieldType.int), .methodLink RX11 332 yX10_reasonFor]
set_option maxRecDepth 20000 in
theorem tt56_in : ∀ w ∈ tt56, w ∈ tables_1_7 := tt_sub [69, 72, 73, 74, 75, 76, 77, 78, 79, 80, 81, 82, 83, 84, 86, 87, 88, 89, 90, 91, 92, 93, 94, 95, 96] rfl
def tt57 : List Cond := [.methodLink RL 231 yX11_undo, .instanceMethod yX11_undo, .selects RX11 yX11_undo yX11_undo, .code yX11_undo cX11_undo 1 (Option.some Jvm.ClassFile.FieldType.int), .methodLink RX11 225 yX3_bringBack, .instanceMethod yX3_bringBack, .selects RX3 yX3_bringBack yX3_bringBack, .code yX3_bringBack cX3_bringBack 3 (Option.some Jvm.ClassFile.FieldType.boolean), .methodLink RX11 229 yX3_steps, .instanceMethod yX3_steps, .selects RX3 yX3_steps yX3_steps, .code yX3_steps cX3_steps 1 (Option.some Jvm.ClassFile.FieldType.int), .methodLink RL 234 yX11_lacks, .instanceMethod yX11_lacks, .selects RX11 yX11_lacks yX11_lacks, .code yX11_lacks cX11_lacks 1 (Option.some Jvm.ClassFile.FieldType.int), .methodLink RX11 347 yJ9_max_7cf53, .methodLink RL 237 yX11_canWin, .instanceMethod yX11_canWin, .selects RX11 yX11_canWin yX11_canWin, .code yX11_canWin cX11_canWin 2 (Option.some Jvm.ClassFile.FieldType.boolean), .methodLink RX11 341 yX10_resultWithAllInto, .instanceMethod yX10_resultWithAllInto, .selects RX10 yX10_resultWithAllInto yX10_resultWithAllInto, .code yX10_resultWithAllInto cX10_resultWithAllInto 3 (Option.some Jvm.ClassFile.FieldType.int)]
set_option maxRecDepth 20000 in
theorem tt57_in : ∀ w ∈ tt57, w ∈ tables_1_7 := tt_sub [97, 98, 99, 100, 101, 102, 103, 104, 105, 106, 107, 108, 109, 110, 111, 112, 113, 114, 115, 116, 117, 118, 119, 120, 121] rfl
def tt58 : List Cond := [.methodLink RX10 230 yX10_canBeLaid, .instanceMethod yX10_canBeLaid, .code yX10_canBeLaid cX10_canBeLaid 3 (Option.some Jvm.ClassFile.FieldType.boolean), .methodLink RX10 237 yX9_placeOf, .methodLink RX10 240 yX9_carrierOf, .methodLink RX10 233 yX0_put, .instanceMethod yX0_put, .selects RX0 yX0_put yX0_put, .code yX0_put cX0_put 3 (Option.none : Option Jvm.ClassFile.FieldType), .methodLink RL 241 yX11_bestDay, .instanceMethod yX11_bestDay, .selects RX11 yX11_bestDay yX11_bestDay, .code yX11_bestDay cX11_bestDay 2 (Option.some Jvm.ClassFile.FieldType.int), .methodLink RX11 355 yX10_bestDayUpTo, .instanceMethod yX10_bestDayUpTo, .selects RX10 yX10_bestDayUpTo yX10_bestDayUpTo, .code yX10_bestDayUpTo cX10_bestDayUpTo 6 (Option.some Jvm.ClassFile.FieldType.int), .methodLink RX10 205 yX10_surplusBehind, .instanceMethod yX10_surplusBehind, .code yX10_surplusBehind cX10_surplusBehind 3 (Option.some Jvm.ClassFile.FieldType.int), .methodLink RX10 208 yX2_peopleAtSeaOn, .instanceMethod yX2_peopleAtSeaOn, .selects RX2 yX2_peopleAtSeaOn yX2_peopleAtSeaOn, .code yX2_peopleAtSeaOn cX2_peopleAtSeaOn 4 (Option.some Jvm.ClassFile.FieldType.int), .methodLink RX10 211 yX10_needBehind]
set_option maxRecDepth 20000 in
theorem tt58_in : ∀ w ∈ tt58, w ∈ tables_1_7 := tt_sub [122, 124, 125, 126, 127, 128, 129, 130, 131, 132, 133, 134, 135, 136, 137, 138, 139, 140, 142, 143, 144, 145, 146, 147, 148] rfl
def tt59 : List Cond := [.methodLink RL 244 yJ0_equals_9ea2d, .instanceMethod yJ0_equals_9ea2d, .selects RJ0 yJ0_equals_9ea2d yJ0_equals_9ea2d, .code yJ0_equals_9ea2d cJ0_equals_9ea2d 3 (Option.some Jvm.ClassFile.FieldType.boolean), .classLink RJ0 10 RJ0, .methodLink RJ0 541 yJ1_equals_b5fdf, .static yJ1_equals_b5fdf, .code yJ1_equals_b5fdf cJ1_equals_b5fdf 3 (Option.some Jvm.ClassFile.FieldType.boolean), .methodLink RL 275 yL_undone, .static yL_undone, .code yL_undone cL_undone 7 (Option.some Jvm.ClassFile.FieldType.boolean), .methodLink RL 252 yX11_keep, .instanceMethod yX11_keep, .selects RX11 yX11_keep yX11_keep, .code yX11_keep cX11_keep 2 (Option.some Jvm.ClassFile.FieldType.int), .methodLink RX11 216 yX11_isSlot, .instanceMethod yX11_isSlot, .code yX11_isSlot cX11_isSlot 2 (Option.some Jvm.ClassFile.FieldType.boolean), .methodLink RX11 219 yX8_copyFrom, .methodLink RL 259 yX11_restore, .instanceMethod yX11_restore, .selects RX11 yX11_restore yX11_restore, .code yX11_restore cX11_restore 2 (Option.some Jvm.ClassFile.FieldType.int), .sameMethod RJ5 RJ5 "appendNull" "()Ljava/lang/AbstractStringBuilder;", .sameMethod RJ5 RJ5 "ensureCapacityInternal" "(I)V"]
set_option maxRecDepth 20000 in
theorem tt59_in : ∀ w ∈ tt59, w ∈ tables_1_7 := tt_sub [149, 150, 151, 152, 153, 154, 155, 156, 157, 158, 159, 160, 161, 162, 163, 164, 166, 167, 168, 169, 170, 171, 172, 173, 174] rfl
def tt60 : List Cond := [.sameMethod RJ5 RJ5 "newCapacity" "(I)I", .sameMethod RJ5 RJ5 "putStringAt" "(ILjava/lang/String;)V", .sameMethod RJ5 RJ5 "inflateIfNeededFor" "(Ljava/lang/String;)V", .sameMethod RJ5 RJ5 "inflate" "()V", .sameMethod RJ5 RJ5 "append" "(I)Ljava/lang/AbstractStringBuilder;", .sameMethod RJ5 RJ5 "append" "(C)Ljava/lang/AbstractStringBuilder;"]
set_option maxRecDepth 20000 in
theorem tt60_in : ∀ w ∈ tt60, w ∈ tables_1_7 := tt_sub [175, 176, 177, 178, 179, 180] rfl
def ts0 : List Cond := [.selects RX10 yX10_latestVote yX10_latestVote, .selects RX5 yX5_placeOf yX5_placeOf, .selects RX11 yX11_isPerson yX11_isPerson, .selects RX4 yX4_advance yX4_advance, .selects RX4 yX4_readNumbers yX4_readNumbers, .selects RX4 yX4_skipKeyword yX4_skipKeyword, .selects RX4 yX4_isKeyword yX4_isKeyword, .selects RX4 yX4_reads yX4_reads, .selects RX4 yX4_readNumber yX4_readNumber, .selects RX4 yX4_digits yX4_digits, .selects RX4 yX4_readShares yX4_readShares, .selects RX4 yX4_skipSemicolon yX4_skipSemicolon, .selects RX4 yX4_readBoats yX4_readBoats, .selects RX4 yX4_isName yX4_isName, .selects RX4 yX4_isAnyKeyword yX4_isAnyKeyword, .selects RX4 yX4_letters yX4_letters, .selects RX4 yX4_readPeople yX4_readPeople, .selects RX4 yX4_readPerson yX4_readPerson, .selects RX9 yX9_countAt yX9_countAt, .selects RX10 yX10_resultFor yX10_resultFor, .selects RX0 yX0_countAll yX0_countAll, .selects RX11 yX11_isBoat yX11_isBoat, .selects RX11 yX11_refusalToLay yX11_refusalToLay, .selects RX10 yX10_strike yX10_strike, .selects RX10 yX10_correctResult yX10_correctResult]
set_option maxRecDepth 20000 in
theorem ts0_in : ∀ w ∈ ts0, w ∈ k2_sels lw_privs := tt_sub [0, 1, 2, 3, 4, 5, 6, 7, 8, 9, 10, 11, 12, 13, 14, 15, 16, 17, 18, 19, 20, 21, 22, 23, 24] rfl
def ts1 : List Cond := [.selects RX10 yX10_bringHomeTodays yX10_bringHomeTodays, .selects RX6 yX6_writeStick yX6_writeStick, .selects RX6 yX6_writeNumber yX6_writeNumber, .selects RX6 yX6_writeNumbers yX6_writeNumbers, .selects RX6 yX6_writePerson yX6_writePerson, .selects RX10 yX10_canBeLaid yX10_canBeLaid, .selects RX10 yX10_surplusBehind yX10_surplusBehind, .selects RX11 yX11_isSlot yX11_isSlot]
set_option maxRecDepth 20000 in
theorem ts1_in : ∀ w ∈ ts1, w ∈ k2_sels lw_privs := tt_sub [25, 26, 27, 28, 29, 30, 31, 32] rfl
def tb0 : List Cond := [.selects RJ4 yJ5_ensureCapacityInternal_d00df yJ5_ensureCapacityInternal_d00df, .selects RJ4 yJ5_newCapacity_0f7a4 yJ5_newCapacity_0f7a4, .selects RJ4 yJ5_putStringAt_47b60 yJ5_putStringAt_47b60, .selects RJ4 yJ5_inflateIfNeededFor_a7421 yJ5_inflateIfNeededFor_a7421]
theorem tb0_in : ∀ w ∈ tb0, w ∈ sb_sels := tt_sub [0, 1, 2, 3] rfl
def lw_all : List Cond := ((((((tt0 ++ tt1) ++ (tt2 ++ tt3)) ++ ((tt4 ++ tt5) ++ (tt6 ++ tt7))) ++ (((tt8 ++ tt9) ++ (tt10 ++ tt11)) ++ ((tt12 ++ tt13) ++ (tt14 ++ tt15)))) ++ ((((tt16 ++ tt17) ++ (tt18 ++ tt19)) ++ ((tt20 ++ tt21) ++ (tt22 ++ tt23))) ++ (((tt24 ++ tt25) ++ (tt26 ++ tt27)) ++ ((tt28 ++ tt29) ++ (tt30 ++ tt31))))) ++ (((((tt32 ++ tt33) ++ (tt34 ++ tt35)) ++ ((tt36 ++ tt37) ++ (tt38 ++ tt39))) ++ (((tt40 ++ tt41) ++ (tt42 ++ tt43)) ++ ((tt44 ++ tt45) ++ (tt46 ++ tt47)))) ++ ((((tt48 ++ tt49) ++ (tt50 ++ tt51)) ++ ((tt52 ++ tt53) ++ (tt54 ++ tt55))) ++ (((tt56 ++ tt57) ++ (tt58 ++ tt59)) ++ ((tt60 ++ ts0) ++ (ts1 ++ tb0))))))
theorem tt0_all : ∀ w ∈ tt0, w ∈ lw_all := fun w h => List.mem_append_left _ (List.mem_append_left _ (List.mem_append_left _ (List.mem_append_left _ (List.mem_append_left _ (List.mem_append_left _ (h))))))
theorem tt1_all : ∀ w ∈ tt1, w ∈ lw_all := fun w h => List.mem_append_left _ (List.mem_append_left _ (List.mem_append_left _ (List.mem_append_left _ (List.mem_append_left _ (List.mem_append_right _ (h))))))
theorem tt2_all : ∀ w ∈ tt2, w ∈ lw_all := fun w h => List.mem_append_left _ (List.mem_append_left _ (List.mem_append_left _ (List.mem_append_left _ (List.mem_append_right _ (List.mem_append_left _ (h))))))
theorem tt3_all : ∀ w ∈ tt3, w ∈ lw_all := fun w h => List.mem_append_left _ (List.mem_append_left _ (List.mem_append_left _ (List.mem_append_left _ (List.mem_append_right _ (List.mem_append_right _ (h))))))
theorem tt4_all : ∀ w ∈ tt4, w ∈ lw_all := fun w h => List.mem_append_left _ (List.mem_append_left _ (List.mem_append_left _ (List.mem_append_right _ (List.mem_append_left _ (List.mem_append_left _ (h))))))
theorem tt5_all : ∀ w ∈ tt5, w ∈ lw_all := fun w h => List.mem_append_left _ (List.mem_append_left _ (List.mem_append_left _ (List.mem_append_right _ (List.mem_append_left _ (List.mem_append_right _ (h))))))
theorem tt6_all : ∀ w ∈ tt6, w ∈ lw_all := fun w h => List.mem_append_left _ (List.mem_append_left _ (List.mem_append_left _ (List.mem_append_right _ (List.mem_append_right _ (List.mem_append_left _ (h))))))
theorem tt7_all : ∀ w ∈ tt7, w ∈ lw_all := fun w h => List.mem_append_left _ (List.mem_append_left _ (List.mem_append_left _ (List.mem_append_right _ (List.mem_append_right _ (List.mem_append_right _ (h))))))
theorem tt8_all : ∀ w ∈ tt8, w ∈ lw_all := fun w h => List.mem_append_left _ (List.mem_append_left _ (List.mem_append_right _ (List.mem_append_left _ (List.mem_append_left _ (List.mem_append_left _ (h))))))
theorem tt9_all : ∀ w ∈ tt9, w ∈ lw_all := fun w h => List.mem_append_left _ (List.mem_append_left _ (List.mem_append_right _ (List.mem_append_left _ (List.mem_append_left _ (List.mem_append_right _ (h))))))
theorem tt10_all : ∀ w ∈ tt10, w ∈ lw_all := fun w h => List.mem_append_left _ (List.mem_append_left _ (List.mem_append_right _ (List.mem_append_left _ (List.mem_append_right _ (List.mem_append_left _ (h))))))
theorem tt11_all : ∀ w ∈ tt11, w ∈ lw_all := fun w h => List.mem_append_left _ (List.mem_append_left _ (List.mem_append_right _ (List.mem_append_left _ (List.mem_append_right _ (List.mem_append_right _ (h))))))
theorem tt12_all : ∀ w ∈ tt12, w ∈ lw_all := fun w h => List.mem_append_left _ (List.mem_append_left _ (List.mem_append_right _ (List.mem_append_right _ (List.mem_append_left _ (List.mem_append_left _ (h))))))
theorem tt13_all : ∀ w ∈ tt13, w ∈ lw_all := fun w h => List.mem_append_left _ (List.mem_append_left _ (List.mem_append_right _ (List.mem_append_right _ (List.mem_append_left _ (List.mem_append_right _ (h))))))
theorem tt14_all : ∀ w ∈ tt14, w ∈ lw_all := fun w h => List.mem_append_left _ (List.mem_append_left _ (List.mem_append_right _ (List.mem_append_right _ (List.mem_append_right _ (List.mem_append_left _ (h))))))
theorem tt15_all : ∀ w ∈ tt15, w ∈ lw_all := fun w h => List.mem_append_left _ (List.mem_append_left _ (List.mem_append_right _ (List.mem_append_right _ (List.mem_append_right _ (List.mem_append_right _ (h))))))
theorem tt16_all : ∀ w ∈ tt16, w ∈ lw_all := fun w h => List.mem_append_left _ (List.mem_append_right _ (List.mem_append_left _ (List.mem_append_left _ (List.mem_append_left _ (List.mem_append_left _ (h))))))
theorem tt17_all : ∀ w ∈ tt17, w ∈ lw_all := fun w h => List.mem_append_left _ (List.mem_append_right _ (List.mem_append_left _ (List.mem_append_left _ (List.mem_append_left _ (List.mem_append_right _ (h))))))
theorem tt18_all : ∀ w ∈ tt18, w ∈ lw_all := fun w h => List.mem_append_left _ (List.mem_append_right _ (List.mem_append_left _ (List.mem_append_left _ (List.mem_append_right _ (List.mem_append_left _ (h))))))
theorem tt19_all : ∀ w ∈ tt19, w ∈ lw_all := fun w h => List.mem_append_left _ (List.mem_append_right _ (List.mem_append_left _ (List.mem_append_left _ (List.mem_append_right _ (List.mem_append_right _ (h))))))
theorem tt20_all : ∀ w ∈ tt20, w ∈ lw_all := fun w h => List.mem_append_left _ (List.mem_append_right _ (List.mem_append_left _ (List.mem_append_right _ (List.mem_append_left _ (List.mem_append_left _ (h))))))
theorem tt21_all : ∀ w ∈ tt21, w ∈ lw_all := fun w h => List.mem_append_left _ (List.mem_append_right _ (List.mem_append_left _ (List.mem_append_right _ (List.mem_append_left _ (List.mem_append_right _ (h))))))
theorem tt22_all : ∀ w ∈ tt22, w ∈ lw_all := fun w h => List.mem_append_left _ (List.mem_append_right _ (List.mem_append_left _ (List.mem_append_right _ (List.mem_append_right _ (List.mem_append_left _ (h))))))
theorem tt23_all : ∀ w ∈ tt23, w ∈ lw_all := fun w h => List.mem_append_left _ (List.mem_append_right _ (List.mem_append_left _ (List.mem_append_right _ (List.mem_append_right _ (List.mem_append_right _ (h))))))
theorem tt24_all : ∀ w ∈ tt24, w ∈ lw_all := fun w h => List.mem_append_left _ (List.mem_append_right _ (List.mem_append_right _ (List.mem_append_left _ (List.mem_append_left _ (List.mem_append_left _ (h))))))
theorem tt25_all : ∀ w ∈ tt25, w ∈ lw_all := fun w h => List.mem_append_left _ (List.mem_append_right _ (List.mem_append_right _ (List.mem_append_left _ (List.mem_append_left _ (List.mem_append_right _ (h))))))
theorem tt26_all : ∀ w ∈ tt26, w ∈ lw_all := fun w h => List.mem_append_left _ (List.mem_append_right _ (List.mem_append_right _ (List.mem_append_left _ (List.mem_append_right _ (List.mem_append_left _ (h))))))
theorem tt27_all : ∀ w ∈ tt27, w ∈ lw_all := fun w h => List.mem_append_left _ (List.mem_append_right _ (List.mem_append_right _ (List.mem_append_left _ (List.mem_append_right _ (List.mem_append_right _ (h))))))
theorem tt28_all : ∀ w ∈ tt28, w ∈ lw_all := fun w h => List.mem_append_left _ (List.mem_append_right _ (List.mem_append_right _ (List.mem_append_right _ (List.mem_append_left _ (List.mem_append_left _ (h))))))
theorem tt29_all : ∀ w ∈ tt29, w ∈ lw_all := fun w h => List.mem_append_left _ (List.mem_append_right _ (List.mem_append_right _ (List.mem_append_right _ (List.mem_append_left _ (List.mem_append_right _ (h))))))
theorem tt30_all : ∀ w ∈ tt30, w ∈ lw_all := fun w h => List.mem_append_left _ (List.mem_append_right _ (List.mem_append_right _ (List.mem_append_right _ (List.mem_append_right _ (List.mem_append_left _ (h))))))
theorem tt31_all : ∀ w ∈ tt31, w ∈ lw_all := fun w h => List.mem_append_left _ (List.mem_append_right _ (List.mem_append_right _ (List.mem_append_right _ (List.mem_append_right _ (List.mem_append_right _ (h))))))
theorem tt32_all : ∀ w ∈ tt32, w ∈ lw_all := fun w h => List.mem_append_right _ (List.mem_append_left _ (List.mem_append_left _ (List.mem_append_left _ (List.mem_append_left _ (List.mem_append_left _ (h))))))
theorem tt33_all : ∀ w ∈ tt33, w ∈ lw_all := fun w h => List.mem_append_right _ (List.mem_append_left _ (List.mem_append_left _ (List.mem_append_left _ (List.mem_append_left _ (List.mem_append_right _ (h))))))
theorem tt34_all : ∀ w ∈ tt34, w ∈ lw_all := fun w h => List.mem_append_right _ (List.mem_append_left _ (List.mem_append_left _ (List.mem_append_left _ (List.mem_append_right _ (List.mem_append_left _ (h))))))
theorem tt35_all : ∀ w ∈ tt35, w ∈ lw_all := fun w h => List.mem_append_right _ (List.mem_append_left _ (List.mem_append_left _ (List.mem_append_left _ (List.mem_append_right _ (List.mem_append_right _ (h))))))
theorem tt36_all : ∀ w ∈ tt36, w ∈ lw_all := fun w h => List.mem_append_right _ (List.mem_append_left _ (List.mem_append_left _ (List.mem_append_right _ (List.mem_append_left _ (List.mem_append_left _ (h))))))
theorem tt37_all : ∀ w ∈ tt37, w ∈ lw_all := fun w h => List.mem_append_right _ (List.mem_append_left _ (List.mem_append_left _ (List.mem_append_right _ (List.mem_append_left _ (List.mem_append_right _ (h))))))
theorem tt38_all : ∀ w ∈ tt38, w ∈ lw_all := fun w h => List.mem_append_right _ (List.mem_append_left _ (List.mem_append_left _ (List.mem_append_right _ (List.mem_append_right _ (List.mem_append_left _ (h))))))
theorem tt39_all : ∀ w ∈ tt39, w ∈ lw_all := fun w h => List.mem_append_right _ (List.mem_append_left _ (List.mem_append_left _ (List.mem_append_right _ (List.mem_append_right _ (List.mem_append_right _ (h))))))
theorem tt40_all : ∀ w ∈ tt40, w ∈ lw_all := fun w h => List.mem_append_right _ (List.mem_append_left _ (List.mem_append_right _ (List.mem_append_left _ (List.mem_append_left _ (List.mem_append_left _ (h))))))
theorem tt41_all : ∀ w ∈ tt41, w ∈ lw_all := fun w h => List.mem_append_right _ (List.mem_append_left _ (List.mem_append_right _ (List.mem_append_left _ (List.mem_append_left _ (List.mem_append_right _ (h))))))
theorem tt42_all : ∀ w ∈ tt42, w ∈ lw_all := fun w h => List.mem_append_right _ (List.mem_append_left _ (List.mem_append_right _ (List.mem_append_left _ (List.mem_append_right _ (List.mem_append_left _ (h))))))
theorem tt43_all : ∀ w ∈ tt43, w ∈ lw_all := fun w h => List.mem_append_right _ (List.mem_append_left _ (List.mem_append_right _ (List.mem_append_left _ (List.mem_append_right _ (List.mem_append_right _ (h))))))
theorem tt44_all : ∀ w ∈ tt44, w ∈ lw_all := fun w h => List.mem_append_right _ (List.mem_append_left _ (List.mem_append_right _ (List.mem_append_right _ (List.mem_append_left _ (List.mem_append_left _ (h))))))
theorem tt45_all : ∀ w ∈ tt45, w ∈ lw_all := fun w h => List.mem_append_right _ (List.mem_append_left _ (List.mem_append_right _ (List.mem_append_right _ (List.mem_append_left _ (List.mem_append_right _ (h))))))
theorem tt46_all : ∀ w ∈ tt46, w ∈ lw_all := fun w h => List.mem_append_right _ (List.mem_append_left _ (List.mem_append_right _ (List.mem_append_right _ (List.mem_append_right _ (List.mem_append_left _ (h))))))
theorem tt47_all : ∀ w ∈ tt47, w ∈ lw_all := fun w h => List.mem_append_right _ (List.mem_append_left _ (List.mem_append_right _ (List.mem_append_right _ (List.mem_append_right _ (List.mem_append_right _ (h))))))
theorem tt48_all : ∀ w ∈ tt48, w ∈ lw_all := fun w h => List.mem_append_right _ (List.mem_append_right _ (List.mem_append_left _ (List.mem_append_left _ (List.mem_append_left _ (List.mem_append_left _ (h))))))
theorem tt49_all : ∀ w ∈ tt49, w ∈ lw_all := fun w h => List.mem_append_right _ (List.mem_append_right _ (List.mem_append_left _ (List.mem_append_left _ (List.mem_append_left _ (List.mem_append_right _ (h))))))
theorem tt50_all : ∀ w ∈ tt50, w ∈ lw_all := fun w h => List.mem_append_right _ (List.mem_append_right _ (List.mem_append_left _ (List.mem_append_left _ (List.mem_append_right _ (List.mem_append_left _ (h))))))
theorem tt51_all : ∀ w ∈ tt51, w ∈ lw_all := fun w h => List.mem_append_right _ (List.mem_append_right _ (List.mem_append_left _ (List.mem_append_left _ (List.mem_append_right _ (List.mem_append_right _ (h))))))
theorem tt52_all : ∀ w ∈ tt52, w ∈ lw_all := fun w h => List.mem_append_right _ (List.mem_append_right _ (List.mem_append_left _ (List.mem_append_right _ (List.mem_append_left _ (List.mem_append_left _ (h))))))
theorem tt53_all : ∀ w ∈ tt53, w ∈ lw_all := fun w h => List.mem_append_right _ (List.mem_append_right _ (List.mem_append_left _ (List.mem_append_right _ (List.mem_append_left _ (List.mem_append_right _ (h))))))
theorem tt54_all : ∀ w ∈ tt54, w ∈ lw_all := fun w h => List.mem_append_right _ (List.mem_append_right _ (List.mem_append_left _ (List.mem_append_right _ (List.mem_append_right _ (List.mem_append_left _ (h))))))
theorem tt55_all : ∀ w ∈ tt55, w ∈ lw_all := fun w h => List.mem_append_right _ (List.mem_append_right _ (List.mem_append_left _ (List.mem_append_right _ (List.mem_append_right _ (List.mem_append_right _ (h))))))
theorem tt56_all : ∀ w ∈ tt56, w ∈ lw_all := fun w h => List.mem_append_right _ (List.mem_append_right _ (List.mem_append_right _ (List.mem_append_left _ (List.mem_append_left _ (List.mem_append_left _ (h))))))
theorem tt57_all : ∀ w ∈ tt57, w ∈ lw_all := fun w h => List.mem_append_right _ (List.mem_append_right _ (List.mem_append_right _ (List.mem_append_left _ (List.mem_append_left _ (List.mem_append_right _ (h))))))
theorem tt58_all : ∀ w ∈ tt58, w ∈ lw_all := fun w h => List.mem_append_right _ (List.mem_append_right _ (List.mem_append_right _ (List.mem_append_left _ (List.mem_append_right _ (List.mem_append_left _ (h))))))
theorem tt59_all : ∀ w ∈ tt59, w ∈ lw_all := fun w h => List.mem_append_right _ (List.mem_append_right _ (List.mem_append_right _ (List.mem_append_left _ (List.mem_append_right _ (List.mem_append_right _ (h))))))
theorem tt60_all : ∀ w ∈ tt60, w ∈ lw_all := fun w h => List.mem_append_right _ (List.mem_append_right _ (List.mem_append_right _ (List.mem_append_right _ (List.mem_append_left _ (List.mem_append_left _ (h))))))
theorem ts0_all : ∀ w ∈ ts0, w ∈ lw_all := fun w h => List.mem_append_right _ (List.mem_append_right _ (List.mem_append_right _ (List.mem_append_right _ (List.mem_append_left _ (List.mem_append_right _ (h))))))
theorem ts1_all : ∀ w ∈ ts1, w ∈ lw_all := fun w h => List.mem_append_right _ (List.mem_append_right _ (List.mem_append_right _ (List.mem_append_right _ (List.mem_append_right _ (List.mem_append_left _ (h))))))
theorem tb0_all : ∀ w ∈ tb0, w ∈ lw_all := fun w h => List.mem_append_right _ (List.mem_append_right _ (List.mem_append_right _ (List.mem_append_right _ (List.mem_append_right _ (List.mem_append_right _ (h))))))
theorem qw0 : Cond.initialized RL ∈ lw_all := tt0_all _ (List.mem_of_getElem? (i := 0) rfl)
theorem qw1 : Cond.initialized RX11 ∈ lw_all := tt0_all _ (List.mem_of_getElem? (i := 1) rfl)
theorem qw2 : Cond.initialized RX4 ∈ lw_all := tt0_all _ (List.mem_of_getElem? (i := 2) rfl)
theorem qw3 : Cond.initialized RX1 ∈ lw_all := tt0_all _ (List.mem_of_getElem? (i := 3) rfl)
theorem qw4 : Cond.initialized RJ9 ∈ lw_all := tt0_all _ (List.mem_of_getElem? (i := 4) rfl)
theorem qw5 : Cond.initialized RX7 ∈ lw_all := tt0_all _ (List.mem_of_getElem? (i := 5) rfl)
theorem qw6 : Cond.initialized RX10 ∈ lw_all := tt0_all _ (List.mem_of_getElem? (i := 6) rfl)
theorem qw7 : Cond.initialized RX8 ∈ lw_all := tt0_all _ (List.mem_of_getElem? (i := 7) rfl)
theorem qw8 : Cond.initialized RX2 ∈ lw_all := tt0_all _ (List.mem_of_getElem? (i := 8) rfl)
theorem qw9 : Cond.initialized RX9 ∈ lw_all := tt0_all _ (List.mem_of_getElem? (i := 9) rfl)
theorem qw10 : Cond.initialized RX5 ∈ lw_all := tt0_all _ (List.mem_of_getElem? (i := 10) rfl)
theorem qw11 : Cond.initialized RX0 ∈ lw_all := tt0_all _ (List.mem_of_getElem? (i := 11) rfl)
theorem qw12 : Cond.initialized RX3 ∈ lw_all := tt0_all _ (List.mem_of_getElem? (i := 12) rfl)
theorem qw13 : Cond.initialized RX6 ∈ lw_all := tt0_all _ (List.mem_of_getElem? (i := 13) rfl)
theorem qw14 : Cond.initialized RJ5 ∈ lw_all := tt0_all _ (List.mem_of_getElem? (i := 14) rfl)
theorem qw15 : Cond.initialized RJ4 ∈ lw_all := tt0_all _ (List.mem_of_getElem? (i := 15) rfl)
theorem qw16 : Cond.initialized RJ0 ∈ lw_all := tt0_all _ (List.mem_of_getElem? (i := 16) rfl)
theorem qw17 : Cond.initialized RJ2 ∈ lw_all := tt0_all _ (List.mem_of_getElem? (i := 17) rfl)
theorem qw18 : Cond.initialized RJ8 ∈ lw_all := tt0_all _ (List.mem_of_getElem? (i := 18) rfl)
theorem qw19 : Cond.initialized RJ7 ∈ lw_all := tt0_all _ (List.mem_of_getElem? (i := 19) rfl)
theorem qw20 : Cond.initialized RJ10 ∈ lw_all := tt0_all _ (List.mem_of_getElem? (i := 20) rfl)
theorem qw21 : Cond.initialized RJ3 ∈ lw_all := tt0_all _ (List.mem_of_getElem? (i := 21) rfl)
theorem qw22 : Cond.initialized RJ1 ∈ lw_all := tt0_all _ (List.mem_of_getElem? (i := 22) rfl)
theorem qw23 : Cond.initialized RJ6 ∈ lw_all := tt0_all _ (List.mem_of_getElem? (i := 23) rfl)
theorem qw24 : Cond.classLink RL 9 RX11 ∈ lw_all := tt0_all _ (List.mem_of_getElem? (i := 24) rfl)
theorem qw25 : Cond.instantiable RX11 10 ∈ lw_all := tt1_all _ (List.mem_of_getElem? (i := 0) rfl)
theorem qw26 : Cond.methodLink RL 262 yX11_init ∈ lw_all := tt1_all _ (List.mem_of_getElem? (i := 1) rfl)
theorem qw27 : Cond.instanceMethod yX11_init ∈ lw_all := tt1_all _ (List.mem_of_getElem? (i := 2) rfl)
theorem qw28 : Cond.code yX11_init cX11_init 1 (Option.none : Option Jvm.ClassFile.FieldType) ∈ lw_all := tt1_all _ (List.mem_of_getElem? (i := 3) rfl)
theorem qw29 : Cond.methodLink RX11 1 objectInit ∈ lw_all := tt1_all _ (List.mem_of_getElem? (i := 4) rfl)
theorem qw30 : Cond.instanceMethod objectInit ∈ lw_all := tt1_all _ (List.mem_of_getElem? (i := 5) rfl)
theorem qw31 : Cond.code objectInit ⟨#[0xb1]⟩ 1 (Option.none : Option Jvm.ClassFile.FieldType) ∈ lw_all := tt1_all _ (List.mem_of_getElem? (i := 6) rfl)
theorem qw32 : Cond.classLink RX11 7 RX4 ∈ lw_all := tt1_all _ (List.mem_of_getElem? (i := 7) rfl)
theorem qw33 : Cond.instantiable RX4 5 ∈ lw_all := tt1_all _ (List.mem_of_getElem? (i := 8) rfl)
theorem qw35 : Cond.instanceMethod yX4_init ∈ lw_all := tt1_all _ (List.mem_of_getElem? (i := 9) rfl)
theorem qw36 : Cond.code yX4_init cX4_init 1 (Option.none : Option Jvm.ClassFile.FieldType) ∈ lw_all := tt1_all _ (List.mem_of_getElem? (i := 10) rfl)
theorem qw37 : Cond.methodLink RX4 3 objectInit ∈ lw_all := tt1_all _ (List.mem_of_getElem? (i := 11) rfl)
theorem qw38 : Cond.classLink RX4 9 RX1 ∈ lw_all := tt1_all _ (List.mem_of_getElem? (i := 12) rfl)
theorem qw39 : Cond.instantiable RX1 2 ∈ lw_all := tt1_all _ (List.mem_of_getElem? (i := 13) rfl)
theorem qw40 : Cond.methodLink RX4 11 yX1_init ∈ lw_all := tt1_all _ (List.mem_of_getElem? (i := 14) rfl)
theorem qw41 : Cond.instanceMethod yX1_init ∈ lw_all := tt1_all _ (List.mem_of_getElem? (i := 15) rfl)
theorem qw42 : Cond.code yX1_init cX1_init 2 (Option.none : Option Jvm.ClassFile.FieldType) ∈ lw_all := tt1_all _ (List.mem_of_getElem? (i := 16) rfl)
theorem qw43 : Cond.methodLink RX1 3 objectInit ∈ lw_all := tt1_all _ (List.mem_of_getElem? (i := 17) rfl)
theorem qw44 : Cond.methodLink RX1 9 yJ9_max_7cf53 ∈ lw_all := tt1_all _ (List.mem_of_getElem? (i := 18) rfl)
theorem qw45 : Cond.static yJ9_max_7cf53 ∈ lw_all := tt1_all _ (List.mem_of_getElem? (i := 19) rfl)
theorem qw46 : Cond.code yJ9_max_7cf53 cJ9_max_7cf53 2 (Option.some Jvm.ClassFile.FieldType.int) ∈ lw_all := tt1_all _ (List.mem_of_getElem? (i := 20) rfl)
theorem qw47 : Cond.fieldLink RX1 15 "StickVotes$Bytes" "cells" "[B" ∈ lw_all := tt1_all _ (List.mem_of_getElem? (i := 21) rfl)
theorem qw48 : Cond.fieldLink RX1 21 "StickVotes$Bytes" "length" "I" ∈ lw_all := tt1_all _ (List.mem_of_getElem? (i := 22) rfl)
theorem qw49 : Cond.laysFinal RX1 "StickVotes$Bytes" "cells" "[B" ∈ lw_all := tt1_all _ (List.mem_of_getElem? (i := 23) rfl)
theorem qw51 : Cond.lays RX1 "StickVotes$Bytes" "length" "I" ∈ lw_all := tt1_all _ (List.mem_of_getElem? (i := 24) rfl)
theorem qw53 : Cond.superclass RX1 "java/lang/Object" ∈ lw_all := tt2_all _ (List.mem_of_getElem? (i := 0) rfl)
theorem qw54 : Cond.arrayClass Jvm.ClassFile.FieldType.byte ∈ lw_all := tt2_all _ (List.mem_of_getElem? (i := 1) rfl)
theorem qw55 : Cond.classLink RX4 20 RX7 ∈ lw_all := tt2_all _ (List.mem_of_getElem? (i := 2) rfl)
theorem qw56 : Cond.instantiable RX7 6 ∈ lw_all := tt2_all _ (List.mem_of_getElem? (i := 3) rfl)
theorem qw58 : Cond.instanceMethod yX7_init ∈ lw_all := tt2_all _ (List.mem_of_getElem? (i := 4) rfl)
theorem qw59 : Cond.code yX7_init cX7_init 1 (Option.none : Option Jvm.ClassFile.FieldType) ∈ lw_all := tt2_all _ (List.mem_of_getElem? (i := 5) rfl)
theorem qw60 : Cond.methodLink RX7 3 objectInit ∈ lw_all := tt2_all _ (List.mem_of_getElem? (i := 6) rfl)
theorem qw61 : Cond.fieldLink RX7 9 "StickVotes$Setup" "numbers" "[I" ∈ lw_all := tt2_all _ (List.mem_of_getElem? (i := 7) rfl)
theorem qw62 : Cond.fieldLink RX7 15 "StickVotes$Setup" "boatNames" "[I" ∈ lw_all := tt2_all _ (List.mem_of_getElem? (i := 8) rfl)
theorem qw63 : Cond.fieldLink RX7 18 "StickVotes$Setup" "personNames" "[I" ∈ lw_all := tt2_all _ (List.mem_of_getElem? (i := 9) rfl)
theorem qw64 : Cond.fieldLink RX7 21 "StickVotes$Setup" "firstBoats" "[I" ∈ lw_all := tt2_all _ (List.mem_of_getElem? (i := 10) rfl)
theorem qw65 : Cond.fieldLink RX7 36 "StickVotes$Setup" "boats" "I" ∈ lw_all := tt2_all _ (List.mem_of_getElem? (i := 11) rfl)
theorem qw66 : Cond.fieldLink RX7 40 "StickVotes$Setup" "people" "I" ∈ lw_all := tt2_all _ (List.mem_of_getElem? (i := 12) rfl)
theorem qw67 : Cond.laysFinal RX7 "StickVotes$Setup" "numbers" "[I" ∈ lw_all := tt2_all _ (List.mem_of_getElem? (i := 13) rfl)
theorem qw69 : Cond.laysFinal RX7 "StickVotes$Setup" "boatNames" "[I" ∈ lw_all := tt2_all _ (List.mem_of_getElem? (i := 14) rfl)
theorem qw71 : Cond.laysFinal RX7 "StickVotes$Setup" "personNames" "[I" ∈ lw_all := tt2_all _ (List.mem_of_getElem? (i := 15) rfl)
theorem qw73 : Cond.laysFinal RX7 "StickVotes$Setup" "firstBoats" "[I" ∈ lw_all := tt2_all _ (List.mem_of_getElem? (i := 16) rfl)
theorem qw75 : Cond.lays RX7 "StickVotes$Setup" "boats" "I" ∈ lw_all := tt2_all _ (List.mem_of_getElem? (i := 17) rfl)
theorem qw77 : Cond.lays RX7 "StickVotes$Setup" "people" "I" ∈ lw_all := tt2_all _ (List.mem_of_getElem? (i := 18) rfl)
theorem qw79 : Cond.superclass RX7 "java/lang/Object" ∈ lw_all := tt2_all _ (List.mem_of_getElem? (i := 19) rfl)
theorem qw80 : Cond.arrayClass Jvm.ClassFile.FieldType.int ∈ lw_all := tt2_all _ (List.mem_of_getElem? (i := 20) rfl)
theorem qw81 : Cond.fieldLink RX4 14 "StickVotes$Parser" "tape" "LStickVotes$Bytes;" ∈ lw_all := tt2_all _ (List.mem_of_getElem? (i := 21) rfl)
theorem qw82 : Cond.fieldLink RX11 16 "StickVotes$Parser" "tape" "LStickVotes$Bytes;" ∈ lw_all := tt2_all _ (List.mem_of_getElem? (i := 22) rfl)
theorem qw83 : Cond.fieldLink RX4 23 "StickVotes$Parser" "draft" "LStickVotes$Setup;" ∈ lw_all := tt2_all _ (List.mem_of_getElem? (i := 23) rfl)
theorem qw84 : Cond.fieldLink RX11 86 "StickVotes$Parser" "draft" "LStickVotes$Setup;" ∈ lw_all := tt2_all _ (List.mem_of_getElem? (i := 24) rfl)
theorem qw85 : Cond.fieldLink RX4 97 "StickVotes$Parser" "kind" "I" ∈ lw_all := tt3_all _ (List.mem_of_getElem? (i := 0) rfl)
theorem qw86 : Cond.fieldLink RX4 47 "StickVotes$Parser" "start" "I" ∈ lw_all := tt3_all _ (List.mem_of_getElem? (i := 1) rfl)
theorem qw87 : Cond.fieldLink RX4 30 "StickVotes$Parser" "end" "I" ∈ lw_all := tt3_all _ (List.mem_of_getElem? (i := 2) rfl)
theorem qw88 : Cond.laysFinal RX4 "StickVotes$Parser" "tape" "LStickVotes$Bytes;" ∈ lw_all := tt3_all _ (List.mem_of_getElem? (i := 3) rfl)
theorem qw90 : Cond.laysFinal RX4 "StickVotes$Parser" "draft" "LStickVotes$Setup;" ∈ lw_all := tt3_all _ (List.mem_of_getElem? (i := 4) rfl)
theorem qw92 : Cond.lays RX4 "StickVotes$Parser" "kind" "I" ∈ lw_all := tt3_all _ (List.mem_of_getElem? (i := 5) rfl)
theorem qw94 : Cond.lays RX4 "StickVotes$Parser" "start" "I" ∈ lw_all := tt3_all _ (List.mem_of_getElem? (i := 6) rfl)
theorem qw96 : Cond.lays RX4 "StickVotes$Parser" "end" "I" ∈ lw_all := tt3_all _ (List.mem_of_getElem? (i := 7) rfl)
theorem qw98 : Cond.superclass RX4 "java/lang/Object" ∈ lw_all := tt3_all _ (List.mem_of_getElem? (i := 8) rfl)
theorem qw99 : Cond.classLink RX11 21 RX10 ∈ lw_all := tt3_all _ (List.mem_of_getElem? (i := 9) rfl)
theorem qw100 : Cond.instantiable RX10 3 ∈ lw_all := tt3_all _ (List.mem_of_getElem? (i := 10) rfl)
theorem qw102 : Cond.instanceMethod yX10_init ∈ lw_all := tt3_all _ (List.mem_of_getElem? (i := 11) rfl)
theorem qw103 : Cond.code yX10_init cX10_init 1 (Option.none : Option Jvm.ClassFile.FieldType) ∈ lw_all := tt3_all _ (List.mem_of_getElem? (i := 12) rfl)
theorem qw104 : Cond.methodLink RX10 3 objectInit ∈ lw_all := tt3_all _ (List.mem_of_getElem? (i := 13) rfl)
theorem qw105 : Cond.classLink RX10 9 RX7 ∈ lw_all := tt3_all _ (List.mem_of_getElem? (i := 14) rfl)
theorem qw107 : Cond.classLink RX10 18 RX8 ∈ lw_all := tt3_all _ (List.mem_of_getElem? (i := 15) rfl)
theorem qw108 : Cond.instantiable RX8 12 ∈ lw_all := tt3_all _ (List.mem_of_getElem? (i := 16) rfl)
theorem qw110 : Cond.instanceMethod yX8_init ∈ lw_all := tt3_all _ (List.mem_of_getElem? (i := 17) rfl)
theorem qw111 : Cond.code yX8_init cX8_init 1 (Option.none : Option Jvm.ClassFile.FieldType) ∈ lw_all := tt3_all _ (List.mem_of_getElem? (i := 18) rfl)
theorem qw112 : Cond.methodLink RX8 3 objectInit ∈ lw_all := tt3_all _ (List.mem_of_getElem? (i := 19) rfl)
theorem qw113 : Cond.classLink RX8 9 RX2 ∈ lw_all := tt3_all _ (List.mem_of_getElem? (i := 20) rfl)
theorem qw114 : Cond.instantiable RX2 6 ∈ lw_all := tt3_all _ (List.mem_of_getElem? (i := 21) rfl)
theorem qw116 : Cond.instanceMethod yX2_init ∈ lw_all := tt3_all _ (List.mem_of_getElem? (i := 22) rfl)
theorem qw117 : Cond.code yX2_init cX2_init 1 (Option.none : Option Jvm.ClassFile.FieldType) ∈ lw_all := tt3_all _ (List.mem_of_getElem? (i := 23) rfl)
theorem qw118 : Cond.methodLink RX2 3 objectInit ∈ lw_all := tt3_all _ (List.mem_of_getElem? (i := 24) rfl)
theorem qw119 : Cond.fieldLink RX2 9 "StickVotes$Fleet" "boatOf" "[I" ∈ lw_all := tt4_all _ (List.mem_of_getElem? (i := 0) rfl)
theorem qw120 : Cond.fieldLink RX2 15 "StickVotes$Fleet" "atSea" "[I" ∈ lw_all := tt4_all _ (List.mem_of_getElem? (i := 1) rfl)
theorem qw121 : Cond.fieldLink RX2 18 "StickVotes$Fleet" "faults" "[I" ∈ lw_all := tt4_all _ (List.mem_of_getElem? (i := 2) rfl)
theorem qw122 : Cond.fieldLink RX2 21 "StickVotes$Fleet" "daysAtSea" "[I" ∈ lw_all := tt4_all _ (List.mem_of_getElem? (i := 3) rfl)
theorem qw123 : Cond.fieldLink RX2 24 "StickVotes$Fleet" "back" "[I" ∈ lw_all := tt4_all _ (List.mem_of_getElem? (i := 4) rfl)
theorem qw124 : Cond.fieldLink RX2 27 "StickVotes$Fleet" "sailed" "[I" ∈ lw_all := tt4_all _ (List.mem_of_getElem? (i := 5) rfl)
theorem qw125 : Cond.laysFinal RX2 "StickVotes$Fleet" "boatOf" "[I" ∈ lw_all := tt4_all _ (List.mem_of_getElem? (i := 6) rfl)
theorem qw127 : Cond.laysFinal RX2 "StickVotes$Fleet" "atSea" "[I" ∈ lw_all := tt4_all _ (List.mem_of_getElem? (i := 7) rfl)
theorem qw129 : Cond.laysFinal RX2 "StickVotes$Fleet" "faults" "[I" ∈ lw_all := tt4_all _ (List.mem_of_getElem? (i := 8) rfl)
theorem qw131 : Cond.laysFinal RX2 "StickVotes$Fleet" "daysAtSea" "[I" ∈ lw_all := tt4_all _ (List.mem_of_getElem? (i := 9) rfl)
theorem qw133 : Cond.laysFinal RX2 "StickVotes$Fleet" "back" "[I" ∈ lw_all := tt4_all _ (List.mem_of_getElem? (i := 10) rfl)
theorem qw135 : Cond.laysFinal RX2 "StickVotes$Fleet" "sailed" "[I" ∈ lw_all := tt4_all _ (List.mem_of_getElem? (i := 11) rfl)
theorem qw137 : Cond.superclass RX2 "java/lang/Object" ∈ lw_all := tt4_all _ (List.mem_of_getElem? (i := 12) rfl)
theorem qw138 : Cond.classLink RX8 18 RX9 ∈ lw_all := tt4_all _ (List.mem_of_getElem? (i := 13) rfl)
theorem qw139 : Cond.instantiable RX9 6 ∈ lw_all := tt4_all _ (List.mem_of_getElem? (i := 14) rfl)
theorem qw141 : Cond.instanceMethod yX9_init ∈ lw_all := tt4_all _ (List.mem_of_getElem? (i := 15) rfl)
theorem qw142 : Cond.code yX9_init cX9_init 1 (Option.none : Option Jvm.ClassFile.FieldType) ∈ lw_all := tt4_all _ (List.mem_of_getElem? (i := 16) rfl)
theorem qw143 : Cond.methodLink RX9 3 objectInit ∈ lw_all := tt4_all _ (List.mem_of_getElem? (i := 17) rfl)
theorem qw144 : Cond.fieldLink RX9 9 "StickVotes$Sticks" "place" "[I" ∈ lw_all := tt4_all _ (List.mem_of_getElem? (i := 18) rfl)
theorem qw145 : Cond.fieldLink RX9 15 "StickVotes$Sticks" "carrier" "[I" ∈ lw_all := tt4_all _ (List.mem_of_getElem? (i := 19) rfl)
theorem qw146 : Cond.fieldLink RX9 18 "StickVotes$Sticks" "bound" "[I" ∈ lw_all := tt4_all _ (List.mem_of_getElem? (i := 20) rfl)
theorem qw147 : Cond.fieldLink RX9 21 "StickVotes$Sticks" "basket" "[I" ∈ lw_all := tt4_all _ (List.mem_of_getElem? (i := 21) rfl)
theorem qw148 : Cond.fieldLink RX9 24 "StickVotes$Sticks" "day" "[I" ∈ lw_all := tt4_all _ (List.mem_of_getElem? (i := 22) rfl)
theorem qw149 : Cond.fieldLink RX9 27 "StickVotes$Sticks" "reason" "[I" ∈ lw_all := tt4_all _ (List.mem_of_getElem? (i := 23) rfl)
theorem qw150 : Cond.laysFinal RX9 "StickVotes$Sticks" "place" "[I" ∈ lw_all := tt4_all _ (List.mem_of_getElem? (i := 24) rfl)
theorem qw152 : Cond.laysFinal RX9 "StickVotes$Sticks" "carrier" "[I" ∈ lw_all := tt5_all _ (List.mem_of_getElem? (i := 0) rfl)
theorem qw154 : Cond.laysFinal RX9 "StickVotes$Sticks" "bound" "[I" ∈ lw_all := tt5_all _ (List.mem_of_getElem? (i := 1) rfl)
theorem qw156 : Cond.laysFinal RX9 "StickVotes$Sticks" "basket" "[I" ∈ lw_all := tt5_all _ (List.mem_of_getElem? (i := 2) rfl)
theorem qw158 : Cond.laysFinal RX9 "StickVotes$Sticks" "day" "[I" ∈ lw_all := tt5_all _ (List.mem_of_getElem? (i := 3) rfl)
theorem qw160 : Cond.laysFinal RX9 "StickVotes$Sticks" "reason" "[I" ∈ lw_all := tt5_all _ (List.mem_of_getElem? (i := 4) rfl)
theorem qw162 : Cond.superclass RX9 "java/lang/Object" ∈ lw_all := tt5_all _ (List.mem_of_getElem? (i := 5) rfl)
theorem qw163 : Cond.classLink RX8 25 RX5 ∈ lw_all := tt5_all _ (List.mem_of_getElem? (i := 6) rfl)
theorem qw164 : Cond.instantiable RX5 3 ∈ lw_all := tt5_all _ (List.mem_of_getElem? (i := 7) rfl)
theorem qw165 : Cond.methodLink RX8 27 yX5_init ∈ lw_all := tt5_all _ (List.mem_of_getElem? (i := 8) rfl)
theorem qw166 : Cond.instanceMethod yX5_init ∈ lw_all := tt5_all _ (List.mem_of_getElem? (i := 9) rfl)
theorem qw167 : Cond.code yX5_init cX5_init 2 (Option.none : Option Jvm.ClassFile.FieldType) ∈ lw_all := tt5_all _ (List.mem_of_getElem? (i := 10) rfl)
theorem qw168 : Cond.methodLink RX5 3 objectInit ∈ lw_all := tt5_all _ (List.mem_of_getElem? (i := 11) rfl)
theorem qw169 : Cond.methodLink RX5 9 yJ9_max_7cf53 ∈ lw_all := tt5_all _ (List.mem_of_getElem? (i := 12) rfl)
theorem qw170 : Cond.fieldLink RX5 15 "StickVotes$Ring" "rows" "I" ∈ lw_all := tt5_all _ (List.mem_of_getElem? (i := 13) rfl)
theorem qw171 : Cond.fieldLink RX5 21 "StickVotes$Ring" "cells" "[I" ∈ lw_all := tt5_all _ (List.mem_of_getElem? (i := 14) rfl)
theorem qw172 : Cond.fieldLink RX5 25 "StickVotes$Ring" "added" "I" ∈ lw_all := tt5_all _ (List.mem_of_getElem? (i := 15) rfl)
theorem qw173 : Cond.laysFinal RX5 "StickVotes$Ring" "rows" "I" ∈ lw_all := tt5_all _ (List.mem_of_getElem? (i := 16) rfl)
theorem qw175 : Cond.laysFinal RX5 "StickVotes$Ring" "cells" "[I" ∈ lw_all := tt5_all _ (List.mem_of_getElem? (i := 17) rfl)
theorem qw177 : Cond.lays RX5 "StickVotes$Ring" "added" "I" ∈ lw_all := tt5_all _ (List.mem_of_getElem? (i := 18) rfl)
theorem qw179 : Cond.superclass RX5 "java/lang/Object" ∈ lw_all := tt5_all _ (List.mem_of_getElem? (i := 19) rfl)
theorem qw180 : Cond.fieldLink RX8 12 "StickVotes$State" "fleet" "LStickVotes$Fleet;" ∈ lw_all := tt5_all _ (List.mem_of_getElem? (i := 20) rfl)
theorem qw181 : Cond.fieldLink RX6 49 "StickVotes$State" "fleet" "LStickVotes$Fleet;" ∈ lw_all := tt5_all _ (List.mem_of_getElem? (i := 21) rfl)
theorem qw182 : Cond.fieldLink RX10 46 "StickVotes$State" "fleet" "LStickVotes$Fleet;" ∈ lw_all := tt5_all _ (List.mem_of_getElem? (i := 22) rfl)
theorem qw183 : Cond.fieldLink RX11 108 "StickVotes$State" "fleet" "LStickVotes$Fleet;" ∈ lw_all := tt5_all _ (List.mem_of_getElem? (i := 23) rfl)
theorem qw184 : Cond.fieldLink RX8 21 "StickVotes$State" "sticks" "LStickVotes$Sticks;" ∈ lw_all := tt5_all _ (List.mem_of_getElem? (i := 24) rfl)
theorem qw185 : Cond.fieldLink RX6 39 "StickVotes$State" "sticks" "LStickVotes$Sticks;" ∈ lw_all := tt6_all _ (List.mem_of_getElem? (i := 0) rfl)
theorem qw186 : Cond.fieldLink RX10 87 "StickVotes$State" "sticks" "LStickVotes$Sticks;" ∈ lw_all := tt6_all _ (List.mem_of_getElem? (i := 1) rfl)
theorem qw187 : Cond.fieldLink RX11 158 "StickVotes$State" "sticks" "LStickVotes$Sticks;" ∈ lw_all := tt6_all _ (List.mem_of_getElem? (i := 2) rfl)
theorem qw188 : Cond.fieldLink RX8 30 "StickVotes$State" "past" "LStickVotes$Ring;" ∈ lw_all := tt6_all _ (List.mem_of_getElem? (i := 3) rfl)
theorem qw189 : Cond.fieldLink RX10 154 "StickVotes$State" "past" "LStickVotes$Ring;" ∈ lw_all := tt6_all _ (List.mem_of_getElem? (i := 4) rfl)
theorem qw190 : Cond.fieldLink RX11 311 "StickVotes$State" "past" "LStickVotes$Ring;" ∈ lw_all := tt6_all _ (List.mem_of_getElem? (i := 5) rfl)
theorem qw191 : Cond.fieldLink RX8 34 "StickVotes$State" "log" "LStickVotes$Ring;" ∈ lw_all := tt6_all _ (List.mem_of_getElem? (i := 6) rfl)
theorem qw192 : Cond.fieldLink RX10 56 "StickVotes$State" "log" "LStickVotes$Ring;" ∈ lw_all := tt6_all _ (List.mem_of_getElem? (i := 7) rfl)
theorem qw193 : Cond.fieldLink RX11 262 "StickVotes$State" "log" "LStickVotes$Ring;" ∈ lw_all := tt6_all _ (List.mem_of_getElem? (i := 8) rfl)
theorem qw194 : Cond.fieldLink RX8 46 "StickVotes$State" "day" "I" ∈ lw_all := tt6_all _ (List.mem_of_getElem? (i := 9) rfl)
theorem qw195 : Cond.fieldLink RX10 42 "StickVotes$State" "day" "I" ∈ lw_all := tt6_all _ (List.mem_of_getElem? (i := 10) rfl)
theorem qw196 : Cond.fieldLink RX11 222 "StickVotes$State" "day" "I" ∈ lw_all := tt6_all _ (List.mem_of_getElem? (i := 11) rfl)
theorem qw197 : Cond.fieldLink RX8 50 "StickVotes$State" "votes" "I" ∈ lw_all := tt6_all _ (List.mem_of_getElem? (i := 12) rfl)
theorem qw198 : Cond.fieldLink RX10 100 "StickVotes$State" "votes" "I" ∈ lw_all := tt6_all _ (List.mem_of_getElem? (i := 13) rfl)
theorem qw199 : Cond.fieldLink RX11 259 "StickVotes$State" "votes" "I" ∈ lw_all := tt6_all _ (List.mem_of_getElem? (i := 14) rfl)
theorem qw200 : Cond.fieldLink RX8 56 "StickVotes$State" "isOpen" "Z" ∈ lw_all := tt6_all _ (List.mem_of_getElem? (i := 15) rfl)
theorem qw201 : Cond.fieldLink RX10 144 "StickVotes$State" "isOpen" "Z" ∈ lw_all := tt6_all _ (List.mem_of_getElem? (i := 16) rfl)
theorem qw202 : Cond.fieldLink RX8 60 "StickVotes$State" "baskets" "I" ∈ lw_all := tt6_all _ (List.mem_of_getElem? (i := 17) rfl)
theorem qw203 : Cond.fieldLink RX11 250 "StickVotes$State" "baskets" "I" ∈ lw_all := tt6_all _ (List.mem_of_getElem? (i := 18) rfl)
theorem qw204 : Cond.fieldLink RX8 63 "StickVotes$State" "lays" "I" ∈ lw_all := tt6_all _ (List.mem_of_getElem? (i := 19) rfl)
theorem qw205 : Cond.fieldLink RX10 113 "StickVotes$State" "lays" "I" ∈ lw_all := tt6_all _ (List.mem_of_getElem? (i := 20) rfl)
theorem qw206 : Cond.fieldLink RX11 361 "StickVotes$State" "lays" "I" ∈ lw_all := tt6_all _ (List.mem_of_getElem? (i := 21) rfl)
theorem qw207 : Cond.fieldLink RX8 66 "StickVotes$State" "recounts" "I" ∈ lw_all := tt6_all _ (List.mem_of_getElem? (i := 22) rfl)
theorem qw208 : Cond.fieldLink RX10 140 "StickVotes$State" "recounts" "I" ∈ lw_all := tt6_all _ (List.mem_of_getElem? (i := 23) rfl)
theorem qw209 : Cond.fieldLink RX11 204 "StickVotes$State" "recounts" "I" ∈ lw_all := tt6_all _ (List.mem_of_getElem? (i := 24) rfl)
theorem qw210 : Cond.fieldLink RX8 69 "StickVotes$State" "fixedNeed" "I" ∈ lw_all := tt7_all _ (List.mem_of_getElem? (i := 0) rfl)
theorem qw211 : Cond.fieldLink RX10 148 "StickVotes$State" "fixedNeed" "I" ∈ lw_all := tt7_all _ (List.mem_of_getElem? (i := 1) rfl)
theorem qw212 : Cond.fieldLink RX8 72 "StickVotes$State" "closedOn" "I" ∈ lw_all := tt7_all _ (List.mem_of_getElem? (i := 2) rfl)
theorem qw213 : Cond.fieldLink RX10 170 "StickVotes$State" "closedOn" "I" ∈ lw_all := tt7_all _ (List.mem_of_getElem? (i := 3) rfl)
theorem qw214 : Cond.laysFinal RX8 "StickVotes$State" "fleet" "LStickVotes$Fleet;" ∈ lw_all := tt7_all _ (List.mem_of_getElem? (i := 4) rfl)
theorem qw216 : Cond.laysFinal RX8 "StickVotes$State" "sticks" "LStickVotes$Sticks;" ∈ lw_all := tt7_all _ (List.mem_of_getElem? (i := 5) rfl)
theorem qw218 : Cond.laysFinal RX8 "StickVotes$State" "past" "LStickVotes$Ring;" ∈ lw_all := tt7_all _ (List.mem_of_getElem? (i := 6) rfl)
theorem qw220 : Cond.laysFinal RX8 "StickVotes$State" "log" "LStickVotes$Ring;" ∈ lw_all := tt7_all _ (List.mem_of_getElem? (i := 7) rfl)
theorem qw222 : Cond.lays RX8 "StickVotes$State" "day" "I" ∈ lw_all := tt7_all _ (List.mem_of_getElem? (i := 8) rfl)
theorem qw224 : Cond.lays RX8 "StickVotes$State" "votes" "I" ∈ lw_all := tt7_all _ (List.mem_of_getElem? (i := 9) rfl)
theorem qw226 : Cond.lays RX8 "StickVotes$State" "isOpen" "Z" ∈ lw_all := tt7_all _ (List.mem_of_getElem? (i := 10) rfl)
theorem qw228 : Cond.lays RX8 "StickVotes$State" "baskets" "I" ∈ lw_all := tt7_all _ (List.mem_of_getElem? (i := 11) rfl)
theorem qw230 : Cond.lays RX8 "StickVotes$State" "lays" "I" ∈ lw_all := tt7_all _ (List.mem_of_getElem? (i := 12) rfl)
theorem qw232 : Cond.lays RX8 "StickVotes$State" "recounts" "I" ∈ lw_all := tt7_all _ (List.mem_of_getElem? (i := 13) rfl)
theorem qw234 : Cond.lays RX8 "StickVotes$State" "fixedNeed" "I" ∈ lw_all := tt7_all _ (List.mem_of_getElem? (i := 14) rfl)
theorem qw236 : Cond.lays RX8 "StickVotes$State" "closedOn" "I" ∈ lw_all := tt7_all _ (List.mem_of_getElem? (i := 15) rfl)
theorem qw238 : Cond.superclass RX8 "java/lang/Object" ∈ lw_all := tt7_all _ (List.mem_of_getElem? (i := 16) rfl)
theorem qw239 : Cond.classLink RX10 25 RX0 ∈ lw_all := tt7_all _ (List.mem_of_getElem? (i := 17) rfl)
theorem qw240 : Cond.instantiable RX0 2 ∈ lw_all := tt8_all _ (List.mem_of_getElem? (i := 0) rfl)
theorem qw242 : Cond.instanceMethod yX0_init ∈ lw_all := tt8_all _ (List.mem_of_getElem? (i := 1) rfl)
theorem qw243 : Cond.code yX0_init cX0_init 1 (Option.none : Option Jvm.ClassFile.FieldType) ∈ lw_all := tt8_all _ (List.mem_of_getElem? (i := 2) rfl)
theorem qw244 : Cond.methodLink RX0 3 objectInit ∈ lw_all := tt8_all _ (List.mem_of_getElem? (i := 3) rfl)
theorem qw245 : Cond.fieldLink RX0 9 "StickVotes$Ballot" "basketOf" "[I" ∈ lw_all := tt8_all _ (List.mem_of_getElem? (i := 4) rfl)
theorem qw246 : Cond.fieldLink RX0 15 "StickVotes$Ballot" "counts" "[I" ∈ lw_all := tt8_all _ (List.mem_of_getElem? (i := 5) rfl)
theorem qw247 : Cond.laysFinal RX0 "StickVotes$Ballot" "basketOf" "[I" ∈ lw_all := tt8_all _ (List.mem_of_getElem? (i := 6) rfl)
theorem qw249 : Cond.laysFinal RX0 "StickVotes$Ballot" "counts" "[I" ∈ lw_all := tt8_all _ (List.mem_of_getElem? (i := 7) rfl)
theorem qw251 : Cond.superclass RX0 "java/lang/Object" ∈ lw_all := tt8_all _ (List.mem_of_getElem? (i := 8) rfl)
theorem qw252 : Cond.fieldLink RX10 12 "StickVotes$Village" "setup" "LStickVotes$Setup;" ∈ lw_all := tt8_all _ (List.mem_of_getElem? (i := 9) rfl)
theorem qw253 : Cond.fieldLink RX11 28 "StickVotes$Village" "setup" "LStickVotes$Setup;" ∈ lw_all := tt8_all _ (List.mem_of_getElem? (i := 10) rfl)
theorem qw254 : Cond.fieldLink RX10 21 "StickVotes$Village" "now" "LStickVotes$State;" ∈ lw_all := tt8_all _ (List.mem_of_getElem? (i := 11) rfl)
theorem qw255 : Cond.fieldLink RX11 33 "StickVotes$Village" "now" "LStickVotes$State;" ∈ lw_all := tt8_all _ (List.mem_of_getElem? (i := 12) rfl)
theorem qw256 : Cond.fieldLink RX10 28 "StickVotes$Village" "ballot" "LStickVotes$Ballot;" ∈ lw_all := tt8_all _ (List.mem_of_getElem? (i := 13) rfl)
theorem qw257 : Cond.laysFinal RX10 "StickVotes$Village" "setup" "LStickVotes$Setup;" ∈ lw_all := tt8_all _ (List.mem_of_getElem? (i := 14) rfl)
theorem qw259 : Cond.laysFinal RX10 "StickVotes$Village" "now" "LStickVotes$State;" ∈ lw_all := tt8_all _ (List.mem_of_getElem? (i := 15) rfl)
theorem qw261 : Cond.laysFinal RX10 "StickVotes$Village" "ballot" "LStickVotes$Ballot;" ∈ lw_all := tt8_all _ (List.mem_of_getElem? (i := 16) rfl)
theorem qw263 : Cond.superclass RX10 "java/lang/Object" ∈ lw_all := tt8_all _ (List.mem_of_getElem? (i := 17) rfl)
theorem qw264 : Cond.classLink RX11 38 RX3 ∈ lw_all := tt8_all _ (List.mem_of_getElem? (i := 18) rfl)
theorem qw265 : Cond.instantiable RX3 3 ∈ lw_all := tt8_all _ (List.mem_of_getElem? (i := 19) rfl)
theorem qw266 : Cond.methodLink RX11 40 yX3_init ∈ lw_all := tt8_all _ (List.mem_of_getElem? (i := 20) rfl)
theorem qw267 : Cond.instanceMethod yX3_init ∈ lw_all := tt8_all _ (List.mem_of_getElem? (i := 21) rfl)
theorem qw268 : Cond.code yX3_init cX3_init 2 (Option.none : Option Jvm.ClassFile.FieldType) ∈ lw_all := tt8_all _ (List.mem_of_getElem? (i := 22) rfl)
theorem qw269 : Cond.methodLink RX3 3 objectInit ∈ lw_all := tt8_all _ (List.mem_of_getElem? (i := 23) rfl)
theorem qw270 : Cond.classLink RX3 9 RX8 ∈ lw_all := tt8_all _ (List.mem_of_getElem? (i := 24) rfl)
theorem qw273 : Cond.fieldLink RX3 11 "StickVotes$History" "states" "[LStickVotes$State;" ∈ lw_all := tt9_all _ (List.mem_of_getElem? (i := 0) rfl)
theorem qw274 : Cond.fieldLink RX3 18 "StickVotes$History" "steps" "I" ∈ lw_all := tt9_all _ (List.mem_of_getElem? (i := 1) rfl)
theorem qw275 : Cond.fieldLink RX3 22 "StickVotes$History" "next" "I" ∈ lw_all := tt9_all _ (List.mem_of_getElem? (i := 2) rfl)
theorem qw276 : Cond.laysFinal RX3 "StickVotes$History" "states" "[LStickVotes$State;" ∈ lw_all := tt9_all _ (List.mem_of_getElem? (i := 3) rfl)
theorem qw278 : Cond.lays RX3 "StickVotes$History" "steps" "I" ∈ lw_all := tt9_all _ (List.mem_of_getElem? (i := 4) rfl)
theorem qw280 : Cond.lays RX3 "StickVotes$History" "next" "I" ∈ lw_all := tt9_all _ (List.mem_of_getElem? (i := 5) rfl)
theorem qw282 : Cond.superclass RX3 "java/lang/Object" ∈ lw_all := tt9_all _ (List.mem_of_getElem? (i := 6) rfl)
theorem qw283 : Cond.classLink RX11 45 RX8 ∈ lw_all := tt9_all _ (List.mem_of_getElem? (i := 7) rfl)
theorem qw285 : Cond.classLink RX11 56 RX6 ∈ lw_all := tt9_all _ (List.mem_of_getElem? (i := 8) rfl)
theorem qw286 : Cond.instantiable RX6 1 ∈ lw_all := tt9_all _ (List.mem_of_getElem? (i := 9) rfl)
theorem qw288 : Cond.instanceMethod yX6_init ∈ lw_all := tt9_all _ (List.mem_of_getElem? (i := 10) rfl)
theorem qw289 : Cond.code yX6_init cX6_init 1 (Option.none : Option Jvm.ClassFile.FieldType) ∈ lw_all := tt9_all _ (List.mem_of_getElem? (i := 11) rfl)
theorem qw290 : Cond.methodLink RX6 3 objectInit ∈ lw_all := tt9_all _ (List.mem_of_getElem? (i := 12) rfl)
theorem qw291 : Cond.classLink RX6 9 RX1 ∈ lw_all := tt9_all _ (List.mem_of_getElem? (i := 13) rfl)
theorem qw292 : Cond.methodLink RX6 11 yX1_init ∈ lw_all := tt9_all _ (List.mem_of_getElem? (i := 14) rfl)
theorem qw293 : Cond.fieldLink RX6 14 "StickVotes$Scribe" "text" "LStickVotes$Bytes;" ∈ lw_all := tt9_all _ (List.mem_of_getElem? (i := 15) rfl)
theorem qw294 : Cond.laysFinal RX6 "StickVotes$Scribe" "text" "LStickVotes$Bytes;" ∈ lw_all := tt9_all _ (List.mem_of_getElem? (i := 16) rfl)
theorem qw296 : Cond.superclass RX6 "java/lang/Object" ∈ lw_all := tt9_all _ (List.mem_of_getElem? (i := 17) rfl)
theorem qw297 : Cond.arrayClass Jvm.ClassFile.FieldType.boolean ∈ lw_all := tt9_all _ (List.mem_of_getElem? (i := 18) rfl)
theorem qw298 : Cond.methodLink RX11 67 yX10_beginTheFirstOne ∈ lw_all := tt9_all _ (List.mem_of_getElem? (i := 19) rfl)
theorem qw299 : Cond.instanceMethod yX10_beginTheFirstOne ∈ lw_all := tt9_all _ (List.mem_of_getElem? (i := 20) rfl)
theorem qw300 : Cond.selects RX10 yX10_beginTheFirstOne yX10_beginTheFirstOne ∈ lw_all := tt9_all _ (List.mem_of_getElem? (i := 21) rfl)
theorem qw301 : Cond.code yX10_beginTheFirstOne cX10_beginTheFirstOne 1 (Option.none : Option Jvm.ClassFile.FieldType) ∈ lw_all := tt9_all _ (List.mem_of_getElem? (i := 22) rfl)
theorem qw302 : Cond.methodLink RX10 32 yX7_makeFirstVillage ∈ lw_all := tt9_all _ (List.mem_of_getElem? (i := 23) rfl)
theorem qw303 : Cond.instanceMethod yX7_makeFirstVillage ∈ lw_all := tt9_all _ (List.mem_of_getElem? (i := 24) rfl)
theorem qw304 : Cond.selects RX7 yX7_makeFirstVillage yX7_makeFirstVillage ∈ lw_all := tt10_all _ (List.mem_of_getElem? (i := 0) rfl)
theorem qw305 : Cond.code yX7_makeFirstVillage cX7_makeFirstVillage 2 (Option.none : Option Jvm.ClassFile.FieldType) ∈ lw_all := tt10_all _ (List.mem_of_getElem? (i := 1) rfl)
theorem qw306 : Cond.methodLink RX7 24 yX7_clear ∈ lw_all := tt10_all _ (List.mem_of_getElem? (i := 2) rfl)
theorem qw307 : Cond.instanceMethod yX7_clear ∈ lw_all := tt10_all _ (List.mem_of_getElem? (i := 3) rfl)
theorem qw308 : Cond.selects RX7 yX7_clear yX7_clear ∈ lw_all := tt10_all _ (List.mem_of_getElem? (i := 4) rfl)
theorem qw309 : Cond.code yX7_clear cX7_clear 1 (Option.none : Option Jvm.ClassFile.FieldType) ∈ lw_all := tt10_all _ (List.mem_of_getElem? (i := 5) rfl)
theorem qw310 : Cond.methodLink RX7 27 yX7_setNumber ∈ lw_all := tt10_all _ (List.mem_of_getElem? (i := 6) rfl)
theorem qw311 : Cond.instanceMethod yX7_setNumber ∈ lw_all := tt10_all _ (List.mem_of_getElem? (i := 7) rfl)
theorem qw312 : Cond.selects RX7 yX7_setNumber yX7_setNumber ∈ lw_all := tt10_all _ (List.mem_of_getElem? (i := 8) rfl)
theorem qw313 : Cond.code yX7_setNumber cX7_setNumber 3 (Option.none : Option Jvm.ClassFile.FieldType) ∈ lw_all := tt10_all _ (List.mem_of_getElem? (i := 9) rfl)
theorem qw315 : Cond.static yX11_setCell ∈ lw_all := tt10_all _ (List.mem_of_getElem? (i := 10) rfl)
theorem qw316 : Cond.code yX11_setCell cX11_setCell 3 (Option.none : Option Jvm.ClassFile.FieldType) ∈ lw_all := tt10_all _ (List.mem_of_getElem? (i := 11) rfl)
theorem qw317 : Cond.constant RX7 31 (33554432 : Int32) ∈ lw_all := tt10_all _ (List.mem_of_getElem? (i := 12) rfl)
theorem qw318 : Cond.methodLink RX7 32 yX7_addPerson ∈ lw_all := tt10_all _ (List.mem_of_getElem? (i := 13) rfl)
theorem qw319 : Cond.instanceMethod yX7_addPerson ∈ lw_all := tt10_all _ (List.mem_of_getElem? (i := 14) rfl)
theorem qw320 : Cond.selects RX7 yX7_addPerson yX7_addPerson ∈ lw_all := tt10_all _ (List.mem_of_getElem? (i := 15) rfl)
theorem qw321 : Cond.code yX7_addPerson cX7_addPerson 3 (Option.none : Option Jvm.ClassFile.FieldType) ∈ lw_all := tt10_all _ (List.mem_of_getElem? (i := 16) rfl)
theorem qw322 : Cond.constant RX7 35 (67108864 : Int32) ∈ lw_all := tt10_all _ (List.mem_of_getElem? (i := 17) rfl)
theorem qw323 : Cond.methodLink RX10 35 yX8_begin ∈ lw_all := tt10_all _ (List.mem_of_getElem? (i := 18) rfl)
theorem qw324 : Cond.instanceMethod yX8_begin ∈ lw_all := tt10_all _ (List.mem_of_getElem? (i := 19) rfl)
theorem qw325 : Cond.selects RX8 yX8_begin yX8_begin ∈ lw_all := tt10_all _ (List.mem_of_getElem? (i := 20) rfl)
theorem qw326 : Cond.code yX8_begin cX8_begin 2 (Option.none : Option Jvm.ClassFile.FieldType) ∈ lw_all := tt10_all _ (List.mem_of_getElem? (i := 21) rfl)
theorem qw327 : Cond.methodLink RX8 37 yX2_begin ∈ lw_all := tt10_all _ (List.mem_of_getElem? (i := 22) rfl)
theorem qw328 : Cond.instanceMethod yX2_begin ∈ lw_all := tt10_all _ (List.mem_of_getElem? (i := 23) rfl)
theorem qw329 : Cond.selects RX2 yX2_begin yX2_begin ∈ lw_all := tt10_all _ (List.mem_of_getElem? (i := 24) rfl)
theorem qw330 : Cond.code yX2_begin cX2_begin 3 (Option.none : Option Jvm.ClassFile.FieldType) ∈ lw_all := tt11_all _ (List.mem_of_getElem? (i := 0) rfl)
theorem qw331 : Cond.methodLink RX2 30 yX7_people ∈ lw_all := tt11_all _ (List.mem_of_getElem? (i := 1) rfl)
theorem qw332 : Cond.instanceMethod yX7_people ∈ lw_all := tt11_all _ (List.mem_of_getElem? (i := 2) rfl)
theorem qw333 : Cond.selects RX7 yX7_people yX7_people ∈ lw_all := tt11_all _ (List.mem_of_getElem? (i := 3) rfl)
theorem qw334 : Cond.code yX7_people cX7_people 1 (Option.some Jvm.ClassFile.FieldType.int) ∈ lw_all := tt11_all _ (List.mem_of_getElem? (i := 4) rfl)
theorem qw335 : Cond.methodLink RX2 36 yX7_firstBoatOf ∈ lw_all := tt11_all _ (List.mem_of_getElem? (i := 5) rfl)
theorem qw336 : Cond.instanceMethod yX7_firstBoatOf ∈ lw_all := tt11_all _ (List.mem_of_getElem? (i := 6) rfl)
theorem qw337 : Cond.selects RX7 yX7_firstBoatOf yX7_firstBoatOf ∈ lw_all := tt11_all _ (List.mem_of_getElem? (i := 7) rfl)
theorem qw338 : Cond.code yX7_firstBoatOf cX7_firstBoatOf 2 (Option.some Jvm.ClassFile.FieldType.int) ∈ lw_all := tt11_all _ (List.mem_of_getElem? (i := 8) rfl)
theorem qw340 : Cond.static yX11_cell ∈ lw_all := tt11_all _ (List.mem_of_getElem? (i := 9) rfl)
theorem qw341 : Cond.code yX11_cell cX11_cell 3 (Option.some Jvm.ClassFile.FieldType.int) ∈ lw_all := tt11_all _ (List.mem_of_getElem? (i := 10) rfl)
theorem qw343 : Cond.static yX11_fillRow ∈ lw_all := tt11_all _ (List.mem_of_getElem? (i := 11) rfl)
theorem qw344 : Cond.code yX11_fillRow cX11_fillRow 3 (Option.none : Option Jvm.ClassFile.FieldType) ∈ lw_all := tt11_all _ (List.mem_of_getElem? (i := 12) rfl)
theorem qw345 : Cond.methodLink RX8 41 yX9_begin ∈ lw_all := tt11_all _ (List.mem_of_getElem? (i := 13) rfl)
theorem qw346 : Cond.instanceMethod yX9_begin ∈ lw_all := tt11_all _ (List.mem_of_getElem? (i := 14) rfl)
theorem qw347 : Cond.selects RX9 yX9_begin yX9_begin ∈ lw_all := tt11_all _ (List.mem_of_getElem? (i := 15) rfl)
theorem qw348 : Cond.code yX9_begin cX9_begin 1 (Option.none : Option Jvm.ClassFile.FieldType) ∈ lw_all := tt11_all _ (List.mem_of_getElem? (i := 16) rfl)
theorem qw350 : Cond.methodLink RX8 43 yX5_clear ∈ lw_all := tt11_all _ (List.mem_of_getElem? (i := 17) rfl)
theorem qw351 : Cond.instanceMethod yX5_clear ∈ lw_all := tt11_all _ (List.mem_of_getElem? (i := 18) rfl)
theorem qw352 : Cond.selects RX5 yX5_clear yX5_clear ∈ lw_all := tt11_all _ (List.mem_of_getElem? (i := 19) rfl)
theorem qw353 : Cond.code yX5_clear cX5_clear 1 (Option.none : Option Jvm.ClassFile.FieldType) ∈ lw_all := tt11_all _ (List.mem_of_getElem? (i := 20) rfl)
theorem qw354 : Cond.methodLink RX8 53 yX8_beginVote ∈ lw_all := tt11_all _ (List.mem_of_getElem? (i := 21) rfl)
theorem qw355 : Cond.instanceMethod yX8_beginVote ∈ lw_all := tt11_all _ (List.mem_of_getElem? (i := 22) rfl)
theorem qw356 : Cond.selects RX8 yX8_beginVote yX8_beginVote ∈ lw_all := tt11_all _ (List.mem_of_getElem? (i := 23) rfl)
theorem qw357 : Cond.code yX8_beginVote cX8_beginVote 2 (Option.none : Option Jvm.ClassFile.FieldType) ∈ lw_all := tt11_all _ (List.mem_of_getElem? (i := 24) rfl)
theorem qw358 : Cond.fieldLink RX11 10 "StickVotes" "parser" "LStickVotes$Parser;" ∈ lw_all := tt12_all _ (List.mem_of_getElem? (i := 0) rfl)
theorem qw359 : Cond.fieldLink RX11 20 "StickVotes" "tape" "LStickVotes$Bytes;" ∈ lw_all := tt12_all _ (List.mem_of_getElem? (i := 1) rfl)
theorem qw360 : Cond.fieldLink RX11 24 "StickVotes" "village" "LStickVotes$Village;" ∈ lw_all := tt12_all _ (List.mem_of_getElem? (i := 2) rfl)
theorem qw361 : Cond.fieldLink RX11 32 "StickVotes" "setup" "LStickVotes$Setup;" ∈ lw_all := tt12_all _ (List.mem_of_getElem? (i := 3) rfl)
theorem qw362 : Cond.fieldLink RX11 37 "StickVotes" "now" "LStickVotes$State;" ∈ lw_all := tt12_all _ (List.mem_of_getElem? (i := 4) rfl)
theorem qw363 : Cond.fieldLink RX11 41 "StickVotes" "history" "LStickVotes$History;" ∈ lw_all := tt12_all _ (List.mem_of_getElem? (i := 5) rfl)
theorem qw364 : Cond.fieldLink RX11 48 "StickVotes" "kept" "[LStickVotes$State;" ∈ lw_all := tt12_all _ (List.mem_of_getElem? (i := 6) rfl)
theorem qw365 : Cond.fieldLink RX11 52 "StickVotes" "isKept" "[Z" ∈ lw_all := tt12_all _ (List.mem_of_getElem? (i := 7) rfl)
theorem qw366 : Cond.fieldLink RX11 59 "StickVotes" "scribe" "LStickVotes$Scribe;" ∈ lw_all := tt12_all _ (List.mem_of_getElem? (i := 8) rfl)
theorem qw367 : Cond.fieldLink RX11 63 "StickVotes" "errorAt" "I" ∈ lw_all := tt12_all _ (List.mem_of_getElem? (i := 9) rfl)
theorem qw368 : Cond.laysFinal RX11 "StickVotes" "parser" "LStickVotes$Parser;" ∈ lw_all := tt12_all _ (List.mem_of_getElem? (i := 10) rfl)
theorem qw370 : Cond.laysFinal RX11 "StickVotes" "tape" "LStickVotes$Bytes;" ∈ lw_all := tt12_all _ (List.mem_of_getElem? (i := 11) rfl)
theorem qw372 : Cond.laysFinal RX11 "StickVotes" "village" "LStickVotes$Village;" ∈ lw_all := tt12_all _ (List.mem_of_getElem? (i := 12) rfl)
theorem qw374 : Cond.laysFinal RX11 "StickVotes" "setup" "LStickVotes$Setup;" ∈ lw_all := tt12_all _ (List.mem_of_getElem? (i := 13) rfl)
theorem qw376 : Cond.laysFinal RX11 "StickVotes" "now" "LStickVotes$State;" ∈ lw_all := tt12_all _ (List.mem_of_getElem? (i := 14) rfl)
theorem qw378 : Cond.laysFinal RX11 "StickVotes" "history" "LStickVotes$History;" ∈ lw_all := tt12_all _ (List.mem_of_getElem? (i := 15) rfl)
theorem qw380 : Cond.laysFinal RX11 "StickVotes" "kept" "[LStickVotes$State;" ∈ lw_all := tt12_all _ (List.mem_of_getElem? (i := 16) rfl)
theorem qw382 : Cond.laysFinal RX11 "StickVotes" "isKept" "[Z" ∈ lw_all := tt12_all _ (List.mem_of_getElem? (i := 17) rfl)
theorem qw384 : Cond.laysFinal RX11 "StickVotes" "scribe" "LStickVotes$Scribe;" ∈ lw_all := tt12_all _ (List.mem_of_getElem? (i := 18) rfl)
theorem qw386 : Cond.lays RX11 "StickVotes" "errorAt" "I" ∈ lw_all := tt12_all _ (List.mem_of_getElem? (i := 19) rfl)
theorem qw388 : Cond.superclass RX11 "java/lang/Object" ∈ lw_all := tt12_all _ (List.mem_of_getElem? (i := 20) rfl)
theorem qw389 : Cond.methodLink RL 122 yX11_open ∈ lw_all := tt12_all _ (List.mem_of_getElem? (i := 21) rfl)
theorem qw390 : Cond.instanceMethod yX11_open ∈ lw_all := tt12_all _ (List.mem_of_getElem? (i := 22) rfl)
theorem qw391 : Cond.selects RX11 yX11_open yX11_open ∈ lw_all := tt12_all _ (List.mem_of_getElem? (i := 23) rfl)
theorem qw392 : Cond.code yX11_open cX11_open 2 (Option.some Jvm.ClassFile.FieldType.int) ∈ lw_all := tt12_all _ (List.mem_of_getElem? (i := 24) rfl)
theorem qw393 : Cond.methodLink RX11 148 yX10_isVoteOpen ∈ lw_all := tt13_all _ (List.mem_of_getElem? (i := 0) rfl)
theorem qw394 : Cond.instanceMethod yX10_isVoteOpen ∈ lw_all := tt13_all _ (List.mem_of_getElem? (i := 1) rfl)
theorem qw395 : Cond.selects RX10 yX10_isVoteOpen yX10_isVoteOpen ∈ lw_all := tt13_all _ (List.mem_of_getElem? (i := 2) rfl)
theorem qw396 : Cond.code yX10_isVoteOpen cX10_isVoteOpen 1 (Option.some Jvm.ClassFile.FieldType.boolean) ∈ lw_all := tt13_all _ (List.mem_of_getElem? (i := 3) rfl)
theorem qw397 : Cond.methodLink RX11 117 yX3_remember ∈ lw_all := tt13_all _ (List.mem_of_getElem? (i := 4) rfl)
theorem qw398 : Cond.instanceMethod yX3_remember ∈ lw_all := tt13_all _ (List.mem_of_getElem? (i := 5) rfl)
theorem qw399 : Cond.selects RX3 yX3_remember yX3_remember ∈ lw_all := tt13_all _ (List.mem_of_getElem? (i := 6) rfl)
theorem qw400 : Cond.code yX3_remember cX3_remember 2 (Option.none : Option Jvm.ClassFile.FieldType) ∈ lw_all := tt13_all _ (List.mem_of_getElem? (i := 7) rfl)
theorem qw402 : Cond.static yX11_isIn ∈ lw_all := tt13_all _ (List.mem_of_getElem? (i := 8) rfl)
theorem qw403 : Cond.code yX11_isIn cX11_isIn 2 (Option.some Jvm.ClassFile.FieldType.boolean) ∈ lw_all := tt13_all _ (List.mem_of_getElem? (i := 9) rfl)
theorem qw404 : Cond.methodLink RX3 29 yX8_copyFrom ∈ lw_all := tt13_all _ (List.mem_of_getElem? (i := 10) rfl)
theorem qw405 : Cond.instanceMethod yX8_copyFrom ∈ lw_all := tt13_all _ (List.mem_of_getElem? (i := 11) rfl)
theorem qw406 : Cond.selects RX8 yX8_copyFrom yX8_copyFrom ∈ lw_all := tt13_all _ (List.mem_of_getElem? (i := 12) rfl)
theorem qw407 : Cond.code yX8_copyFrom cX8_copyFrom 2 (Option.none : Option Jvm.ClassFile.FieldType) ∈ lw_all := tt13_all _ (List.mem_of_getElem? (i := 13) rfl)
theorem qw408 : Cond.methodLink RX8 75 yX2_copyFrom ∈ lw_all := tt13_all _ (List.mem_of_getElem? (i := 14) rfl)
theorem qw409 : Cond.instanceMethod yX2_copyFrom ∈ lw_all := tt13_all _ (List.mem_of_getElem? (i := 15) rfl)
theorem qw410 : Cond.selects RX2 yX2_copyFrom yX2_copyFrom ∈ lw_all := tt13_all _ (List.mem_of_getElem? (i := 16) rfl)
theorem qw411 : Cond.code yX2_copyFrom cX2_copyFrom 2 (Option.none : Option Jvm.ClassFile.FieldType) ∈ lw_all := tt13_all _ (List.mem_of_getElem? (i := 17) rfl)
theorem qw413 : Cond.static yX11_copyRow ∈ lw_all := tt13_all _ (List.mem_of_getElem? (i := 18) rfl)
theorem qw414 : Cond.code yX11_copyRow cX11_copyRow 2 (Option.none : Option Jvm.ClassFile.FieldType) ∈ lw_all := tt13_all _ (List.mem_of_getElem? (i := 19) rfl)
theorem qw415 : Cond.methodLink RX11 387 yJ9_min_7cf53 ∈ lw_all := tt13_all _ (List.mem_of_getElem? (i := 20) rfl)
theorem qw416 : Cond.static yJ9_min_7cf53 ∈ lw_all := tt13_all _ (List.mem_of_getElem? (i := 21) rfl)
theorem qw417 : Cond.code yJ9_min_7cf53 cJ9_min_7cf53 2 (Option.some Jvm.ClassFile.FieldType.int) ∈ lw_all := tt13_all _ (List.mem_of_getElem? (i := 22) rfl)
theorem qw418 : Cond.methodLink RX11 390 ⟨"java/lang/System", "arraycopy", "(Ljava/lang/Object;ILjava/lang/Object;II)V"⟩ ∈ lw_all := tt13_all _ (List.mem_of_getElem? (i := 23) rfl)
theorem qw419 : Cond.static ⟨"java/lang/System", "arraycopy", "(Ljava/lang/Object;ILjava/lang/Object;II)V"⟩ ∈ lw_all := tt13_all _ (List.mem_of_getElem? (i := 24) rfl)
theorem qw420 : Cond.native ⟨"java/lang/System", "arraycopy", "(Ljava/lang/Object;ILjava/lang/Object;II)V"⟩ ∈ lw_all := tt14_all _ (List.mem_of_getElem? (i := 0) rfl)
theorem qw421 : Cond.methodLink RX8 79 yX9_copyFrom ∈ lw_all := tt14_all _ (List.mem_of_getElem? (i := 1) rfl)
theorem qw422 : Cond.instanceMethod yX9_copyFrom ∈ lw_all := tt14_all _ (List.mem_of_getElem? (i := 2) rfl)
theorem qw423 : Cond.selects RX9 yX9_copyFrom yX9_copyFrom ∈ lw_all := tt14_all _ (List.mem_of_getElem? (i := 3) rfl)
theorem qw424 : Cond.code yX9_copyFrom cX9_copyFrom 2 (Option.none : Option Jvm.ClassFile.FieldType) ∈ lw_all := tt14_all _ (List.mem_of_getElem? (i := 4) rfl)
theorem qw426 : Cond.methodLink RX8 82 yX5_copyFrom ∈ lw_all := tt14_all _ (List.mem_of_getElem? (i := 5) rfl)
theorem qw427 : Cond.instanceMethod yX5_copyFrom ∈ lw_all := tt14_all _ (List.mem_of_getElem? (i := 6) rfl)
theorem qw428 : Cond.selects RX5 yX5_copyFrom yX5_copyFrom ∈ lw_all := tt14_all _ (List.mem_of_getElem? (i := 7) rfl)
theorem qw429 : Cond.code yX5_copyFrom cX5_copyFrom 2 (Option.none : Option Jvm.ClassFile.FieldType) ∈ lw_all := tt14_all _ (List.mem_of_getElem? (i := 8) rfl)
theorem qw431 : Cond.methodLink RX3 33 yJ9_min_7cf53 ∈ lw_all := tt14_all _ (List.mem_of_getElem? (i := 9) rfl)
theorem qw432 : Cond.methodLink RX11 152 yX10_beginVote ∈ lw_all := tt14_all _ (List.mem_of_getElem? (i := 10) rfl)
theorem qw433 : Cond.instanceMethod yX10_beginVote ∈ lw_all := tt14_all _ (List.mem_of_getElem? (i := 11) rfl)
theorem qw434 : Cond.selects RX10 yX10_beginVote yX10_beginVote ∈ lw_all := tt14_all _ (List.mem_of_getElem? (i := 12) rfl)
theorem qw435 : Cond.code yX10_beginVote cX10_beginVote 2 (Option.some Jvm.ClassFile.FieldType.int) ∈ lw_all := tt14_all _ (List.mem_of_getElem? (i := 13) rfl)
theorem qw436 : Cond.methodLink RX10 91 yX9_takeOut ∈ lw_all := tt14_all _ (List.mem_of_getElem? (i := 14) rfl)
theorem qw437 : Cond.instanceMethod yX9_takeOut ∈ lw_all := tt14_all _ (List.mem_of_getElem? (i := 15) rfl)
theorem qw438 : Cond.selects RX9 yX9_takeOut yX9_takeOut ∈ lw_all := tt14_all _ (List.mem_of_getElem? (i := 16) rfl)
theorem qw439 : Cond.code yX9_takeOut cX9_takeOut 2 (Option.none : Option Jvm.ClassFile.FieldType) ∈ lw_all := tt14_all _ (List.mem_of_getElem? (i := 17) rfl)
theorem qw440 : Cond.methodLink RX9 46 yX9_carrierOf ∈ lw_all := tt14_all _ (List.mem_of_getElem? (i := 18) rfl)
theorem qw441 : Cond.instanceMethod yX9_carrierOf ∈ lw_all := tt14_all _ (List.mem_of_getElem? (i := 19) rfl)
theorem qw442 : Cond.selects RX9 yX9_carrierOf yX9_carrierOf ∈ lw_all := tt14_all _ (List.mem_of_getElem? (i := 20) rfl)
theorem qw443 : Cond.code yX9_carrierOf cX9_carrierOf 2 (Option.some Jvm.ClassFile.FieldType.int) ∈ lw_all := tt14_all _ (List.mem_of_getElem? (i := 21) rfl)
theorem qw446 : Cond.methodLink RX10 96 yX8_beginVote ∈ lw_all := tt14_all _ (List.mem_of_getElem? (i := 22) rfl)
theorem qw447 : Cond.methodLink RX10 103 yX10_latestVote ∈ lw_all := tt14_all _ (List.mem_of_getElem? (i := 23) rfl)
theorem qw449 : Cond.instanceMethod yX10_latestVote ∈ lw_all := tt14_all _ (List.mem_of_getElem? (i := 24) rfl)
theorem qw450 : Cond.code yX10_latestVote cX10_latestVote 1 (Option.some Jvm.ClassFile.FieldType.int) ∈ lw_all := tt15_all _ (List.mem_of_getElem? (i := 0) rfl)
theorem qw451 : Cond.methodLink RX10 60 yX5_add ∈ lw_all := tt15_all _ (List.mem_of_getElem? (i := 1) rfl)
theorem qw452 : Cond.instanceMethod yX5_add ∈ lw_all := tt15_all _ (List.mem_of_getElem? (i := 2) rfl)
theorem qw453 : Cond.selects RX5 yX5_add yX5_add ∈ lw_all := tt15_all _ (List.mem_of_getElem? (i := 3) rfl)
theorem qw454 : Cond.code yX5_add cX5_add 6 (Option.none : Option Jvm.ClassFile.FieldType) ∈ lw_all := tt15_all _ (List.mem_of_getElem? (i := 4) rfl)
theorem qw455 : Cond.methodLink RX5 35 yX5_placeOf ∈ lw_all := tt15_all _ (List.mem_of_getElem? (i := 5) rfl)
theorem qw457 : Cond.instanceMethod yX5_placeOf ∈ lw_all := tt15_all _ (List.mem_of_getElem? (i := 6) rfl)
theorem qw458 : Cond.code yX5_placeOf cX5_placeOf 2 (Option.some Jvm.ClassFile.FieldType.int) ∈ lw_all := tt15_all _ (List.mem_of_getElem? (i := 7) rfl)
theorem qw459 : Cond.methodLink RX5 59 yJ9_floorMod_7cf53 ∈ lw_all := tt15_all _ (List.mem_of_getElem? (i := 8) rfl)
theorem qw460 : Cond.static yJ9_floorMod_7cf53 ∈ lw_all := tt15_all _ (List.mem_of_getElem? (i := 9) rfl)
theorem qw461 : Cond.code yJ9_floorMod_7cf53 cJ9_floorMod_7cf53 3 (Option.some Jvm.ClassFile.FieldType.int) ∈ lw_all := tt15_all _ (List.mem_of_getElem? (i := 10) rfl)
theorem qw463 : Cond.methodLink RL 154 yX11_person ∈ lw_all := tt15_all _ (List.mem_of_getElem? (i := 11) rfl)
theorem qw464 : Cond.instanceMethod yX11_person ∈ lw_all := tt15_all _ (List.mem_of_getElem? (i := 12) rfl)
theorem qw465 : Cond.selects RX11 yX11_person yX11_person ∈ lw_all := tt15_all _ (List.mem_of_getElem? (i := 13) rfl)
theorem qw466 : Cond.code yX11_person cX11_person 3 (Option.some Jvm.ClassFile.FieldType.int) ∈ lw_all := tt15_all _ (List.mem_of_getElem? (i := 14) rfl)
theorem qw467 : Cond.methodLink RX11 136 yX11_isPerson ∈ lw_all := tt15_all _ (List.mem_of_getElem? (i := 15) rfl)
theorem qw469 : Cond.instanceMethod yX11_isPerson ∈ lw_all := tt15_all _ (List.mem_of_getElem? (i := 16) rfl)
theorem qw470 : Cond.code yX11_isPerson cX11_isPerson 2 (Option.some Jvm.ClassFile.FieldType.boolean) ∈ lw_all := tt15_all _ (List.mem_of_getElem? (i := 17) rfl)
theorem qw471 : Cond.methodLink RX11 96 yX7_people ∈ lw_all := tt15_all _ (List.mem_of_getElem? (i := 18) rfl)
theorem qw472 : Cond.methodLink RX11 307 yX11_isIn ∈ lw_all := tt15_all _ (List.mem_of_getElem? (i := 19) rfl)
theorem qw473 : Cond.methodLink RX11 142 yX2_boatOf ∈ lw_all := tt15_all _ (List.mem_of_getElem? (i := 20) rfl)
theorem qw474 : Cond.instanceMethod yX2_boatOf ∈ lw_all := tt15_all _ (List.mem_of_getElem? (i := 21) rfl)
theorem qw475 : Cond.selects RX2 yX2_boatOf yX2_boatOf ∈ lw_all := tt15_all _ (List.mem_of_getElem? (i := 22) rfl)
theorem qw476 : Cond.code yX2_boatOf cX2_boatOf 2 (Option.some Jvm.ClassFile.FieldType.int) ∈ lw_all := tt15_all _ (List.mem_of_getElem? (i := 23) rfl)
theorem qw478 : Cond.methodLink RX11 139 yX2_isAtSea ∈ lw_all := tt15_all _ (List.mem_of_getElem? (i := 24) rfl)
theorem qw479 : Cond.instanceMethod yX2_isAtSea ∈ lw_all := tt16_all _ (List.mem_of_getElem? (i := 0) rfl)
theorem qw480 : Cond.selects RX2 yX2_isAtSea yX2_isAtSea ∈ lw_all := tt17_all _ (List.mem_of_getElem? (i := 0) rfl)
theorem qw481 : Cond.code yX2_isAtSea cX2_isAtSea 2 (Option.some Jvm.ClassFile.FieldType.boolean) ∈ lw_all := tt17_all _ (List.mem_of_getElem? (i := 1) rfl)
theorem qw482 : Cond.methodLink RX11 274 yX10_homeDayOf ∈ lw_all := tt17_all _ (List.mem_of_getElem? (i := 2) rfl)
theorem qw483 : Cond.instanceMethod yX10_homeDayOf ∈ lw_all := tt17_all _ (List.mem_of_getElem? (i := 3) rfl)
theorem qw484 : Cond.selects RX10 yX10_homeDayOf yX10_homeDayOf ∈ lw_all := tt17_all _ (List.mem_of_getElem? (i := 4) rfl)
theorem qw485 : Cond.code yX10_homeDayOf cX10_homeDayOf 2 (Option.some Jvm.ClassFile.FieldType.int) ∈ lw_all := tt17_all _ (List.mem_of_getElem? (i := 5) rfl)
theorem qw486 : Cond.methodLink RX10 181 yX2_isAtSea ∈ lw_all := tt17_all _ (List.mem_of_getElem? (i := 6) rfl)
theorem qw487 : Cond.methodLink RX10 184 yX2_boatOf ∈ lw_all := tt17_all _ (List.mem_of_getElem? (i := 7) rfl)
theorem qw488 : Cond.methodLink RX10 81 yX2_backOf ∈ lw_all := tt17_all _ (List.mem_of_getElem? (i := 8) rfl)
theorem qw489 : Cond.instanceMethod yX2_backOf ∈ lw_all := tt17_all _ (List.mem_of_getElem? (i := 9) rfl)
theorem qw490 : Cond.selects RX2 yX2_backOf yX2_backOf ∈ lw_all := tt17_all _ (List.mem_of_getElem? (i := 10) rfl)
theorem qw491 : Cond.code yX2_backOf cX2_backOf 2 (Option.some Jvm.ClassFile.FieldType.int) ∈ lw_all := tt17_all _ (List.mem_of_getElem? (i := 11) rfl)
theorem qw492 : Cond.methodLink RX11 192 yX2_faultsOf ∈ lw_all := tt17_all _ (List.mem_of_getElem? (i := 12) rfl)
theorem qw493 : Cond.instanceMethod yX2_faultsOf ∈ lw_all := tt17_all _ (List.mem_of_getElem? (i := 13) rfl)
theorem qw494 : Cond.selects RX2 yX2_faultsOf yX2_faultsOf ∈ lw_all := tt17_all _ (List.mem_of_getElem? (i := 14) rfl)
theorem qw495 : Cond.code yX2_faultsOf cX2_faultsOf 2 (Option.some Jvm.ClassFile.FieldType.int) ∈ lw_all := tt17_all _ (List.mem_of_getElem? (i := 15) rfl)
theorem qw496 : Cond.methodLink RX11 171 yX9_carriedBy ∈ lw_all := tt17_all _ (List.mem_of_getElem? (i := 16) rfl)
theorem qw497 : Cond.instanceMethod yX9_carriedBy ∈ lw_all := tt17_all _ (List.mem_of_getElem? (i := 17) rfl)
theorem qw498 : Cond.selects RX9 yX9_carriedBy yX9_carriedBy ∈ lw_all := tt17_all _ (List.mem_of_getElem? (i := 18) rfl)
theorem qw499 : Cond.code yX9_carriedBy cX9_carriedBy 4 (Option.some Jvm.ClassFile.FieldType.int) ∈ lw_all := tt17_all _ (List.mem_of_getElem? (i := 19) rfl)
theorem qw500 : Cond.methodLink RX9 42 yX9_placeOf ∈ lw_all := tt17_all _ (List.mem_of_getElem? (i := 20) rfl)
theorem qw501 : Cond.instanceMethod yX9_placeOf ∈ lw_all := tt17_all _ (List.mem_of_getElem? (i := 21) rfl)
theorem qw502 : Cond.selects RX9 yX9_placeOf yX9_placeOf ∈ lw_all := tt17_all _ (List.mem_of_getElem? (i := 22) rfl)
theorem qw503 : Cond.code yX9_placeOf cX9_placeOf 2 (Option.some Jvm.ClassFile.FieldType.int) ∈ lw_all := tt17_all _ (List.mem_of_getElem? (i := 23) rfl)
theorem qw504 : Cond.methodLink RX11 174 yJ6_bitCount_0f7a4 ∈ lw_all := tt17_all _ (List.mem_of_getElem? (i := 24) rfl)
theorem qw505 : Cond.static yJ6_bitCount_0f7a4 ∈ lw_all := tt18_all _ (List.mem_of_getElem? (i := 0) rfl)
theorem qw506 : Cond.code yJ6_bitCount_0f7a4 cJ6_bitCount_0f7a4 1 (Option.some Jvm.ClassFile.FieldType.int) ∈ lw_all := tt18_all _ (List.mem_of_getElem? (i := 1) rfl)
theorem qw507 : Cond.constant RJ6 265 (1431655765 : Int32) ∈ lw_all := tt18_all _ (List.mem_of_getElem? (i := 2) rfl)
theorem qw508 : Cond.constant RJ6 266 (858993459 : Int32) ∈ lw_all := tt18_all _ (List.mem_of_getElem? (i := 3) rfl)
theorem qw509 : Cond.constant RJ6 267 (252645135 : Int32) ∈ lw_all := tt18_all _ (List.mem_of_getElem? (i := 4) rfl)
theorem qw510 : Cond.methodLink RX11 277 yX9_laidForOthers ∈ lw_all := tt18_all _ (List.mem_of_getElem? (i := 5) rfl)
theorem qw511 : Cond.instanceMethod yX9_laidForOthers ∈ lw_all := tt18_all _ (List.mem_of_getElem? (i := 6) rfl)
theorem qw512 : Cond.selects RX9 yX9_laidForOthers yX9_laidForOthers ∈ lw_all := tt18_all _ (List.mem_of_getElem? (i := 7) rfl)
theorem qw513 : Cond.code yX9_laidForOthers cX9_laidForOthers 5 (Option.some Jvm.ClassFile.FieldType.int) ∈ lw_all := tt18_all _ (List.mem_of_getElem? (i := 8) rfl)
theorem qw514 : Cond.methodLink RX11 280 yX2_daysAtSeaOf ∈ lw_all := tt18_all _ (List.mem_of_getElem? (i := 9) rfl)
theorem qw515 : Cond.instanceMethod yX2_daysAtSeaOf ∈ lw_all := tt18_all _ (List.mem_of_getElem? (i := 10) rfl)
theorem qw516 : Cond.selects RX2 yX2_daysAtSeaOf yX2_daysAtSeaOf ∈ lw_all := tt18_all _ (List.mem_of_getElem? (i := 11) rfl)
theorem qw517 : Cond.code yX2_daysAtSeaOf cX2_daysAtSeaOf 2 (Option.some Jvm.ClassFile.FieldType.int) ∈ lw_all := tt18_all _ (List.mem_of_getElem? (i := 12) rfl)
theorem qw518 : Cond.methodLink RL 263 yL_loads ∈ lw_all := tt18_all _ (List.mem_of_getElem? (i := 13) rfl)
theorem qw519 : Cond.static yL_loads ∈ lw_all := tt18_all _ (List.mem_of_getElem? (i := 14) rfl)
theorem qw520 : Cond.code yL_loads cL_loads 2 (Option.some Jvm.ClassFile.FieldType.boolean) ∈ lw_all := tt18_all _ (List.mem_of_getElem? (i := 15) rfl)
theorem qw521 : Cond.methodLink RL 31 yL_write ∈ lw_all := tt18_all _ (List.mem_of_getElem? (i := 16) rfl)
theorem qw522 : Cond.static yL_write ∈ lw_all := tt18_all _ (List.mem_of_getElem? (i := 17) rfl)
theorem qw523 : Cond.code yL_write cL_write 7 (Option.none : Option Jvm.ClassFile.FieldType) ∈ lw_all := tt18_all _ (List.mem_of_getElem? (i := 18) rfl)
theorem qw524 : Cond.methodLink RL 8 yX11_tapeLength ∈ lw_all := tt18_all _ (List.mem_of_getElem? (i := 19) rfl)
theorem qw525 : Cond.instanceMethod yX11_tapeLength ∈ lw_all := tt18_all _ (List.mem_of_getElem? (i := 20) rfl)
theorem qw526 : Cond.selects RX11 yX11_tapeLength yX11_tapeLength ∈ lw_all := tt18_all _ (List.mem_of_getElem? (i := 21) rfl)
theorem qw527 : Cond.code yX11_tapeLength cX11_tapeLength 1 (Option.some Jvm.ClassFile.FieldType.int) ∈ lw_all := tt18_all _ (List.mem_of_getElem? (i := 22) rfl)
theorem qw528 : Cond.methodLink RX11 70 yX1_length ∈ lw_all := tt18_all _ (List.mem_of_getElem? (i := 23) rfl)
theorem qw529 : Cond.instanceMethod yX1_length ∈ lw_all := tt18_all _ (List.mem_of_getElem? (i := 24) rfl)
theorem qw530 : Cond.selects RX1 yX1_length yX1_length ∈ lw_all := tt19_all _ (List.mem_of_getElem? (i := 0) rfl)
theorem qw531 : Cond.code yX1_length cX1_length 1 (Option.some Jvm.ClassFile.FieldType.int) ∈ lw_all := tt19_all _ (List.mem_of_getElem? (i := 1) rfl)
theorem qw532 : Cond.methodLink RL 14 yX11_truncate ∈ lw_all := tt19_all _ (List.mem_of_getElem? (i := 2) rfl)
theorem qw533 : Cond.instanceMethod yX11_truncate ∈ lw_all := tt19_all _ (List.mem_of_getElem? (i := 3) rfl)
theorem qw534 : Cond.selects RX11 yX11_truncate yX11_truncate ∈ lw_all := tt19_all _ (List.mem_of_getElem? (i := 4) rfl)
theorem qw535 : Cond.code yX11_truncate cX11_truncate 2 (Option.some Jvm.ClassFile.FieldType.int) ∈ lw_all := tt19_all _ (List.mem_of_getElem? (i := 5) rfl)
theorem qw536 : Cond.methodLink RX11 80 yX1_cutTo ∈ lw_all := tt19_all _ (List.mem_of_getElem? (i := 6) rfl)
theorem qw537 : Cond.instanceMethod yX1_cutTo ∈ lw_all := tt19_all _ (List.mem_of_getElem? (i := 7) rfl)
theorem qw538 : Cond.selects RX1 yX1_cutTo yX1_cutTo ∈ lw_all := tt19_all _ (List.mem_of_getElem? (i := 8) rfl)
theorem qw539 : Cond.code yX1_cutTo cX1_cutTo 2 (Option.none : Option Jvm.ClassFile.FieldType) ∈ lw_all := tt19_all _ (List.mem_of_getElem? (i := 9) rfl)
theorem qw540 : Cond.methodLink RL 18 yJ0_length_8abf5 ∈ lw_all := tt19_all _ (List.mem_of_getElem? (i := 10) rfl)
theorem qw541 : Cond.instanceMethod yJ0_length_8abf5 ∈ lw_all := tt19_all _ (List.mem_of_getElem? (i := 11) rfl)
theorem qw542 : Cond.selects RJ0 yJ0_length_8abf5 yJ0_length_8abf5 ∈ lw_all := tt19_all _ (List.mem_of_getElem? (i := 12) rfl)
theorem qw543 : Cond.code yJ0_length_8abf5 cJ0_length_8abf5 1 (Option.some Jvm.ClassFile.FieldType.int) ∈ lw_all := tt19_all _ (List.mem_of_getElem? (i := 13) rfl)
theorem qw544 : Cond.methodLink RJ0 335 yJ0_coder_7d493 ∈ lw_all := tt19_all _ (List.mem_of_getElem? (i := 14) rfl)
theorem qw545 : Cond.instanceMethod yJ0_coder_7d493 ∈ lw_all := tt19_all _ (List.mem_of_getElem? (i := 15) rfl)
theorem qw546 : Cond.selects RJ0 yJ0_coder_7d493 yJ0_coder_7d493 ∈ lw_all := tt19_all _ (List.mem_of_getElem? (i := 16) rfl)
theorem qw547 : Cond.code yJ0_coder_7d493 cJ0_coder_7d493 1 (Option.some Jvm.ClassFile.FieldType.byte) ∈ lw_all := tt19_all _ (List.mem_of_getElem? (i := 17) rfl)
theorem qw548 : Cond.fieldLink RJ0 38 "java/lang/String" "COMPACT_STRINGS" "Z" ∈ lw_all := tt19_all _ (List.mem_of_getElem? (i := 18) rfl)
theorem qw550 : Cond.methodLink RL 23 yJ0_charAt_5068e ∈ lw_all := tt19_all _ (List.mem_of_getElem? (i := 19) rfl)
theorem qw551 : Cond.instanceMethod yJ0_charAt_5068e ∈ lw_all := tt19_all _ (List.mem_of_getElem? (i := 20) rfl)
theorem qw552 : Cond.selects RJ0 yJ0_charAt_5068e yJ0_charAt_5068e ∈ lw_all := tt19_all _ (List.mem_of_getElem? (i := 21) rfl)
theorem qw553 : Cond.code yJ0_charAt_5068e cJ0_charAt_5068e 2 (Option.some Jvm.ClassFile.FieldType.char) ∈ lw_all := tt19_all _ (List.mem_of_getElem? (i := 22) rfl)
theorem qw554 : Cond.methodLink RJ0 492 yJ0_isLatin1_aae02 ∈ lw_all := tt19_all _ (List.mem_of_getElem? (i := 23) rfl)
theorem qw555 : Cond.instanceMethod yJ0_isLatin1_aae02 ∈ lw_all := tt19_all _ (List.mem_of_getElem? (i := 24) rfl)
theorem qw556 : Cond.selects RJ0 yJ0_isLatin1_aae02 yJ0_isLatin1_aae02 ∈ lw_all := tt20_all _ (List.mem_of_getElem? (i := 0) rfl)
theorem qw557 : Cond.code yJ0_isLatin1_aae02 cJ0_isLatin1_aae02 1 (Option.some Jvm.ClassFile.FieldType.boolean) ∈ lw_all := tt20_all _ (List.mem_of_getElem? (i := 1) rfl)
theorem qw558 : Cond.methodLink RJ0 495 yJ1_charAt_3b067 ∈ lw_all := tt20_all _ (List.mem_of_getElem? (i := 2) rfl)
theorem qw559 : Cond.static yJ1_charAt_3b067 ∈ lw_all := tt20_all _ (List.mem_of_getElem? (i := 3) rfl)
theorem qw560 : Cond.code yJ1_charAt_3b067 cJ1_charAt_3b067 2 (Option.some Jvm.ClassFile.FieldType.char) ∈ lw_all := tt20_all _ (List.mem_of_getElem? (i := 4) rfl)
theorem qw561 : Cond.methodLink RJ1 9 yJ0_checkIndex_df160 ∈ lw_all := tt20_all _ (List.mem_of_getElem? (i := 5) rfl)
theorem qw562 : Cond.static yJ0_checkIndex_df160 ∈ lw_all := tt20_all _ (List.mem_of_getElem? (i := 6) rfl)
theorem qw563 : Cond.code yJ0_checkIndex_df160 cJ0_checkIndex_df160 2 (Option.none : Option Jvm.ClassFile.FieldType) ∈ lw_all := tt20_all _ (List.mem_of_getElem? (i := 7) rfl)
theorem qw564 : Cond.fieldLink RJ0 1053 "jdk/internal/util/Preconditions" "SIOOBE_FORMATTER" "Ljava/util/function/BiFunction;" ∈ lw_all := tt20_all _ (List.mem_of_getElem? (i := 8) rfl)
theorem qw566 : Cond.methodLink RJ0 1059 yJ3_checkIndex_8e157 ∈ lw_all := tt20_all _ (List.mem_of_getElem? (i := 9) rfl)
theorem qw567 : Cond.static yJ3_checkIndex_8e157 ∈ lw_all := tt20_all _ (List.mem_of_getElem? (i := 10) rfl)
theorem qw568 : Cond.code yJ3_checkIndex_8e157 cJ3_checkIndex_8e157 3 (Option.some Jvm.ClassFile.FieldType.int) ∈ lw_all := tt20_all _ (List.mem_of_getElem? (i := 11) rfl)
theorem qw569 : Cond.methodLink RJ0 498 yJ2_charAt_3b067 ∈ lw_all := tt20_all _ (List.mem_of_getElem? (i := 12) rfl)
theorem qw570 : Cond.static yJ2_charAt_3b067 ∈ lw_all := tt20_all _ (List.mem_of_getElem? (i := 13) rfl)
theorem qw571 : Cond.code yJ2_charAt_3b067 cJ2_charAt_3b067 2 (Option.some Jvm.ClassFile.FieldType.char) ∈ lw_all := tt20_all _ (List.mem_of_getElem? (i := 14) rfl)
theorem qw572 : Cond.methodLink RJ2 67 yJ2_checkIndex_2214a ∈ lw_all := tt20_all _ (List.mem_of_getElem? (i := 15) rfl)
theorem qw573 : Cond.static yJ2_checkIndex_2214a ∈ lw_all := tt20_all _ (List.mem_of_getElem? (i := 16) rfl)
theorem qw574 : Cond.code yJ2_checkIndex_2214a cJ2_checkIndex_2214a 2 (Option.none : Option Jvm.ClassFile.FieldType) ∈ lw_all := tt20_all _ (List.mem_of_getElem? (i := 17) rfl)
theorem qw575 : Cond.methodLink RJ2 48 yJ2_length_9d52b ∈ lw_all := tt20_all _ (List.mem_of_getElem? (i := 18) rfl)
theorem qw576 : Cond.static yJ2_length_9d52b ∈ lw_all := tt20_all _ (List.mem_of_getElem? (i := 19) rfl)
theorem qw577 : Cond.code yJ2_length_9d52b cJ2_length_9d52b 1 (Option.some Jvm.ClassFile.FieldType.int) ∈ lw_all := tt20_all _ (List.mem_of_getElem? (i := 20) rfl)
theorem qw578 : Cond.methodLink RJ2 414 yJ0_checkIndex_df160 ∈ lw_all := tt20_all _ (List.mem_of_getElem? (i := 21) rfl)
theorem qw579 : Cond.methodLink RJ2 71 yJ2_getChar_3b067 ∈ lw_all := tt20_all _ (List.mem_of_getElem? (i := 22) rfl)
theorem qw580 : Cond.static yJ2_getChar_3b067 ∈ lw_all := tt20_all _ (List.mem_of_getElem? (i := 23) rfl)
theorem qw581 : Cond.code yJ2_getChar_3b067 cJ2_getChar_3b067 2 (Option.some Jvm.ClassFile.FieldType.char) ∈ lw_all := tt20_all _ (List.mem_of_getElem? (i := 24) rfl)
theorem qw582 : Cond.fieldLink RJ2 44 "java/lang/StringUTF16" "$assertionsDisabled" "Z" ∈ lw_all := tt21_all _ (List.mem_of_getElem? (i := 0) rfl)
theorem qw584 : Cond.fieldLink RJ2 59 "java/lang/StringUTF16" "HI_BYTE_SHIFT" "I" ∈ lw_all := tt21_all _ (List.mem_of_getElem? (i := 1) rfl)
theorem qw586 : Cond.fieldLink RJ2 63 "java/lang/StringUTF16" "LO_BYTE_SHIFT" "I" ∈ lw_all := tt21_all _ (List.mem_of_getElem? (i := 2) rfl)
theorem qw588 : Cond.methodLink RL 27 yX11_append ∈ lw_all := tt21_all _ (List.mem_of_getElem? (i := 3) rfl)
theorem qw589 : Cond.instanceMethod yX11_append ∈ lw_all := tt21_all _ (List.mem_of_getElem? (i := 4) rfl)
theorem qw590 : Cond.selects RX11 yX11_append yX11_append ∈ lw_all := tt21_all _ (List.mem_of_getElem? (i := 5) rfl)
theorem qw591 : Cond.code yX11_append cX11_append 6 (Option.some Jvm.ClassFile.FieldType.int) ∈ lw_all := tt21_all _ (List.mem_of_getElem? (i := 6) rfl)
theorem qw592 : Cond.methodLink RX11 76 yX1_addWhole ∈ lw_all := tt21_all _ (List.mem_of_getElem? (i := 7) rfl)
theorem qw593 : Cond.instanceMethod yX1_addWhole ∈ lw_all := tt21_all _ (List.mem_of_getElem? (i := 8) rfl)
theorem qw594 : Cond.selects RX1 yX1_addWhole yX1_addWhole ∈ lw_all := tt21_all _ (List.mem_of_getElem? (i := 9) rfl)
theorem qw595 : Cond.code yX1_addWhole cX1_addWhole 3 (Option.none : Option Jvm.ClassFile.FieldType) ∈ lw_all := tt21_all _ (List.mem_of_getElem? (i := 10) rfl)
theorem qw596 : Cond.methodLink RX1 25 yX1_add ∈ lw_all := tt21_all _ (List.mem_of_getElem? (i := 11) rfl)
theorem qw597 : Cond.instanceMethod yX1_add ∈ lw_all := tt21_all _ (List.mem_of_getElem? (i := 12) rfl)
theorem qw598 : Cond.selects RX1 yX1_add yX1_add ∈ lw_all := tt21_all _ (List.mem_of_getElem? (i := 13) rfl)
theorem qw599 : Cond.code yX1_add cX1_add 2 (Option.none : Option Jvm.ClassFile.FieldType) ∈ lw_all := tt21_all _ (List.mem_of_getElem? (i := 14) rfl)
theorem qw600 : Cond.methodLink RL 37 yX11_load ∈ lw_all := tt21_all _ (List.mem_of_getElem? (i := 15) rfl)
theorem qw601 : Cond.instanceMethod yX11_load ∈ lw_all := tt21_all _ (List.mem_of_getElem? (i := 16) rfl)
theorem qw602 : Cond.selects RX11 yX11_load yX11_load ∈ lw_all := tt21_all _ (List.mem_of_getElem? (i := 17) rfl)
theorem qw603 : Cond.code yX11_load cX11_load 2 (Option.some Jvm.ClassFile.FieldType.int) ∈ lw_all := tt21_all _ (List.mem_of_getElem? (i := 18) rfl)
theorem qw604 : Cond.methodLink RX11 83 yX4_readTape ∈ lw_all := tt21_all _ (List.mem_of_getElem? (i := 19) rfl)
theorem qw605 : Cond.instanceMethod yX4_readTape ∈ lw_all := tt21_all _ (List.mem_of_getElem? (i := 20) rfl)
theorem qw606 : Cond.selects RX4 yX4_readTape yX4_readTape ∈ lw_all := tt21_all _ (List.mem_of_getElem? (i := 21) rfl)
theorem qw607 : Cond.code yX4_readTape cX4_readTape 1 (Option.some Jvm.ClassFile.FieldType.int) ∈ lw_all := tt21_all _ (List.mem_of_getElem? (i := 22) rfl)
theorem qw608 : Cond.methodLink RX4 27 yX7_clear ∈ lw_all := tt21_all _ (List.mem_of_getElem? (i := 23) rfl)
theorem qw609 : Cond.methodLink RX4 34 yX4_advance ∈ lw_all := tt21_all _ (List.mem_of_getElem? (i := 24) rfl)
theorem qw611 : Cond.instanceMethod yX4_advance ∈ lw_all := tt22_all _ (List.mem_of_getElem? (i := 0) rfl)
theorem qw612 : Cond.code yX4_advance cX4_advance 1 (Option.none : Option Jvm.ClassFile.FieldType) ∈ lw_all := tt22_all _ (List.mem_of_getElem? (i := 1) rfl)
theorem qw613 : Cond.methodLink RX4 126 yX1_length ∈ lw_all := tt22_all _ (List.mem_of_getElem? (i := 2) rfl)
theorem qw614 : Cond.methodLink RX4 129 yX1_at ∈ lw_all := tt22_all _ (List.mem_of_getElem? (i := 3) rfl)
theorem qw615 : Cond.instanceMethod yX1_at ∈ lw_all := tt22_all _ (List.mem_of_getElem? (i := 4) rfl)
theorem qw616 : Cond.selects RX1 yX1_at yX1_at ∈ lw_all := tt22_all _ (List.mem_of_getElem? (i := 5) rfl)
theorem qw617 : Cond.code yX1_at cX1_at 2 (Option.some Jvm.ClassFile.FieldType.int) ∈ lw_all := tt22_all _ (List.mem_of_getElem? (i := 6) rfl)
theorem qw618 : Cond.methodLink RX4 132 yX4_isSpace ∈ lw_all := tt22_all _ (List.mem_of_getElem? (i := 7) rfl)
theorem qw619 : Cond.static yX4_isSpace ∈ lw_all := tt22_all _ (List.mem_of_getElem? (i := 8) rfl)
theorem qw620 : Cond.code yX4_isSpace cX4_isSpace 1 (Option.some Jvm.ClassFile.FieldType.boolean) ∈ lw_all := tt22_all _ (List.mem_of_getElem? (i := 9) rfl)
theorem qw621 : Cond.methodLink RX4 136 yX4_isLetter ∈ lw_all := tt22_all _ (List.mem_of_getElem? (i := 10) rfl)
theorem qw622 : Cond.static yX4_isLetter ∈ lw_all := tt22_all _ (List.mem_of_getElem? (i := 11) rfl)
theorem qw623 : Cond.code yX4_isLetter cX4_isLetter 1 (Option.some Jvm.ClassFile.FieldType.boolean) ∈ lw_all := tt22_all _ (List.mem_of_getElem? (i := 12) rfl)
theorem qw624 : Cond.methodLink RX4 139 yX4_isDigit ∈ lw_all := tt22_all _ (List.mem_of_getElem? (i := 13) rfl)
theorem qw625 : Cond.static yX4_isDigit ∈ lw_all := tt22_all _ (List.mem_of_getElem? (i := 14) rfl)
theorem qw626 : Cond.code yX4_isDigit cX4_isDigit 1 (Option.some Jvm.ClassFile.FieldType.boolean) ∈ lw_all := tt22_all _ (List.mem_of_getElem? (i := 15) rfl)
theorem qw627 : Cond.methodLink RX4 37 yX4_readNumbers ∈ lw_all := tt22_all _ (List.mem_of_getElem? (i := 16) rfl)
theorem qw629 : Cond.instanceMethod yX4_readNumbers ∈ lw_all := tt22_all _ (List.mem_of_getElem? (i := 17) rfl)
theorem qw630 : Cond.code yX4_readNumbers cX4_readNumbers 1 (Option.some Jvm.ClassFile.FieldType.boolean) ∈ lw_all := tt22_all _ (List.mem_of_getElem? (i := 18) rfl)
theorem qw632 : Cond.methodLink RX4 52 yX4_skipKeyword ∈ lw_all := tt22_all _ (List.mem_of_getElem? (i := 19) rfl)
theorem qw634 : Cond.instanceMethod yX4_skipKeyword ∈ lw_all := tt22_all _ (List.mem_of_getElem? (i := 20) rfl)
theorem qw635 : Cond.code yX4_skipKeyword cX4_skipKeyword 2 (Option.some Jvm.ClassFile.FieldType.boolean) ∈ lw_all := tt22_all _ (List.mem_of_getElem? (i := 21) rfl)
theorem qw636 : Cond.methodLink RX4 80 yX4_isKeyword ∈ lw_all := tt22_all _ (List.mem_of_getElem? (i := 22) rfl)
theorem qw638 : Cond.instanceMethod yX4_isKeyword ∈ lw_all := tt22_all _ (List.mem_of_getElem? (i := 23) rfl)
theorem qw639 : Cond.code yX4_isKeyword cX4_isKeyword 2 (Option.some Jvm.ClassFile.FieldType.boolean) ∈ lw_all := tt22_all _ (List.mem_of_getElem? (i := 24) rfl)
theorem qw640 : Cond.methodLink RX4 120 yX4_reads ∈ lw_all := tt23_all _ (List.mem_of_getElem? (i := 0) rfl)
theorem qw642 : Cond.instanceMethod yX4_reads ∈ lw_all := tt23_all _ (List.mem_of_getElem? (i := 1) rfl)
theorem qw643 : Cond.code yX4_reads cX4_reads 3 (Option.some Jvm.ClassFile.FieldType.boolean) ∈ lw_all := tt23_all _ (List.mem_of_getElem? (i := 2) rfl)
theorem qw644 : Cond.methodLink RX4 142 yJ0_length_8abf5 ∈ lw_all := tt23_all _ (List.mem_of_getElem? (i := 3) rfl)
theorem qw645 : Cond.methodLink RX4 145 yJ0_charAt_5068e ∈ lw_all := tt23_all _ (List.mem_of_getElem? (i := 4) rfl)
theorem qw646 : Cond.methodLink RX4 56 yX4_readNumber ∈ lw_all := tt23_all _ (List.mem_of_getElem? (i := 5) rfl)
theorem qw648 : Cond.instanceMethod yX4_readNumber ∈ lw_all := tt23_all _ (List.mem_of_getElem? (i := 6) rfl)
theorem qw649 : Cond.code yX4_readNumber cX4_readNumber 5 (Option.some Jvm.ClassFile.FieldType.boolean) ∈ lw_all := tt23_all _ (List.mem_of_getElem? (i := 7) rfl)
theorem qw650 : Cond.methodLink RX4 114 yX4_digits ∈ lw_all := tt23_all _ (List.mem_of_getElem? (i := 8) rfl)
theorem qw652 : Cond.instanceMethod yX4_digits ∈ lw_all := tt23_all _ (List.mem_of_getElem? (i := 9) rfl)
theorem qw653 : Cond.code yX4_digits cX4_digits 3 (Option.some Jvm.ClassFile.FieldType.int) ∈ lw_all := tt23_all _ (List.mem_of_getElem? (i := 10) rfl)
theorem qw654 : Cond.methodLink RX4 117 yX7_setNumber ∈ lw_all := tt23_all _ (List.mem_of_getElem? (i := 11) rfl)
theorem qw656 : Cond.methodLink RX4 62 yX4_readShares ∈ lw_all := tt23_all _ (List.mem_of_getElem? (i := 12) rfl)
theorem qw658 : Cond.instanceMethod yX4_readShares ∈ lw_all := tt23_all _ (List.mem_of_getElem? (i := 13) rfl)
theorem qw659 : Cond.code yX4_readShares cX4_readShares 2 (Option.some Jvm.ClassFile.FieldType.boolean) ∈ lw_all := tt23_all _ (List.mem_of_getElem? (i := 14) rfl)
theorem qw665 : Cond.methodLink RX4 75 yX4_skipSemicolon ∈ lw_all := tt23_all _ (List.mem_of_getElem? (i := 15) rfl)
theorem qw667 : Cond.instanceMethod yX4_skipSemicolon ∈ lw_all := tt23_all _ (List.mem_of_getElem? (i := 16) rfl)
theorem qw668 : Cond.code yX4_skipSemicolon cX4_skipSemicolon 1 (Option.some Jvm.ClassFile.FieldType.boolean) ∈ lw_all := tt23_all _ (List.mem_of_getElem? (i := 17) rfl)
theorem qw669 : Cond.methodLink RX4 41 yX4_readBoats ∈ lw_all := tt23_all _ (List.mem_of_getElem? (i := 18) rfl)
theorem qw671 : Cond.instanceMethod yX4_readBoats ∈ lw_all := tt23_all _ (List.mem_of_getElem? (i := 19) rfl)
theorem qw672 : Cond.code yX4_readBoats cX4_readBoats 2 (Option.some Jvm.ClassFile.FieldType.boolean) ∈ lw_all := tt23_all _ (List.mem_of_getElem? (i := 20) rfl)
theorem qw674 : Cond.methodLink RX4 83 yX4_isName ∈ lw_all := tt23_all _ (List.mem_of_getElem? (i := 21) rfl)
theorem qw676 : Cond.instanceMethod yX4_isName ∈ lw_all := tt23_all _ (List.mem_of_getElem? (i := 22) rfl)
theorem qw677 : Cond.code yX4_isName cX4_isName 1 (Option.some Jvm.ClassFile.FieldType.boolean) ∈ lw_all := tt23_all _ (List.mem_of_getElem? (i := 23) rfl)
theorem qw678 : Cond.methodLink RX4 123 yX4_isAnyKeyword ∈ lw_all := tt23_all _ (List.mem_of_getElem? (i := 24) rfl)
theorem qw680 : Cond.instanceMethod yX4_isAnyKeyword ∈ lw_all := tt24_all _ (List.mem_of_getElem? (i := 0) rfl)
theorem qw681 : Cond.code yX4_isAnyKeyword cX4_isAnyKeyword 1 (Option.some Jvm.ClassFile.FieldType.boolean) ∈ lw_all := tt24_all _ (List.mem_of_getElem? (i := 1) rfl)
theorem qw684 : Cond.methodLink RX4 86 yX4_letters ∈ lw_all := tt24_all _ (List.mem_of_getElem? (i := 2) rfl)
theorem qw686 : Cond.instanceMethod yX4_letters ∈ lw_all := tt24_all _ (List.mem_of_getElem? (i := 3) rfl)
theorem qw687 : Cond.code yX4_letters cX4_letters 4 (Option.some Jvm.ClassFile.FieldType.int) ∈ lw_all := tt24_all _ (List.mem_of_getElem? (i := 4) rfl)
theorem qw688 : Cond.methodLink RX4 90 yX7_boatNamed ∈ lw_all := tt24_all _ (List.mem_of_getElem? (i := 5) rfl)
theorem qw689 : Cond.instanceMethod yX7_boatNamed ∈ lw_all := tt24_all _ (List.mem_of_getElem? (i := 6) rfl)
theorem qw690 : Cond.selects RX7 yX7_boatNamed yX7_boatNamed ∈ lw_all := tt24_all _ (List.mem_of_getElem? (i := 7) rfl)
theorem qw691 : Cond.code yX7_boatNamed cX7_boatNamed 2 (Option.some Jvm.ClassFile.FieldType.int) ∈ lw_all := tt24_all _ (List.mem_of_getElem? (i := 8) rfl)
theorem qw692 : Cond.methodLink RX7 55 yX7_find ∈ lw_all := tt24_all _ (List.mem_of_getElem? (i := 9) rfl)
theorem qw693 : Cond.static yX7_find ∈ lw_all := tt24_all _ (List.mem_of_getElem? (i := 10) rfl)
theorem qw694 : Cond.code yX7_find cX7_find 4 (Option.some Jvm.ClassFile.FieldType.int) ∈ lw_all := tt24_all _ (List.mem_of_getElem? (i := 11) rfl)
theorem qw695 : Cond.methodLink RX4 94 yX7_addBoat ∈ lw_all := tt24_all _ (List.mem_of_getElem? (i := 12) rfl)
theorem qw696 : Cond.instanceMethod yX7_addBoat ∈ lw_all := tt24_all _ (List.mem_of_getElem? (i := 13) rfl)
theorem qw697 : Cond.selects RX7 yX7_addBoat yX7_addBoat ∈ lw_all := tt24_all _ (List.mem_of_getElem? (i := 14) rfl)
theorem qw698 : Cond.code yX7_addBoat cX7_addBoat 2 (Option.none : Option Jvm.ClassFile.FieldType) ∈ lw_all := tt24_all _ (List.mem_of_getElem? (i := 15) rfl)
theorem qw699 : Cond.methodLink RX4 44 yX4_readPeople ∈ lw_all := tt24_all _ (List.mem_of_getElem? (i := 16) rfl)
theorem qw701 : Cond.instanceMethod yX4_readPeople ∈ lw_all := tt24_all _ (List.mem_of_getElem? (i := 17) rfl)
theorem qw702 : Cond.code yX4_readPeople cX4_readPeople 2 (Option.some Jvm.ClassFile.FieldType.boolean) ∈ lw_all := tt24_all _ (List.mem_of_getElem? (i := 18) rfl)
theorem qw703 : Cond.methodLink RX4 102 yX4_readPerson ∈ lw_all := tt24_all _ (List.mem_of_getElem? (i := 19) rfl)
theorem qw705 : Cond.instanceMethod yX4_readPerson ∈ lw_all := tt24_all _ (List.mem_of_getElem? (i := 20) rfl)
theorem qw706 : Cond.code yX4_readPerson cX4_readPerson 3 (Option.some Jvm.ClassFile.FieldType.boolean) ∈ lw_all := tt24_all _ (List.mem_of_getElem? (i := 21) rfl)
theorem qw707 : Cond.methodLink RX4 105 yX7_personNamed ∈ lw_all := tt24_all _ (List.mem_of_getElem? (i := 22) rfl)
theorem qw708 : Cond.instanceMethod yX7_personNamed ∈ lw_all := tt24_all _ (List.mem_of_getElem? (i := 23) rfl)
theorem qw709 : Cond.selects RX7 yX7_personNamed yX7_personNamed ∈ lw_all := tt24_all _ (List.mem_of_getElem? (i := 24) rfl)
theorem qw710 : Cond.code yX7_personNamed cX7_personNamed 2 (Option.some Jvm.ClassFile.FieldType.int) ∈ lw_all := tt25_all _ (List.mem_of_getElem? (i := 0) rfl)
theorem qw711 : Cond.methodLink RX4 110 yX7_addPerson ∈ lw_all := tt25_all _ (List.mem_of_getElem? (i := 1) rfl)
theorem qw712 : Cond.methodLink RX11 89 yX10_beginAnew ∈ lw_all := tt25_all _ (List.mem_of_getElem? (i := 2) rfl)
theorem qw713 : Cond.instanceMethod yX10_beginAnew ∈ lw_all := tt25_all _ (List.mem_of_getElem? (i := 3) rfl)
theorem qw714 : Cond.selects RX10 yX10_beginAnew yX10_beginAnew ∈ lw_all := tt25_all _ (List.mem_of_getElem? (i := 4) rfl)
theorem qw715 : Cond.code yX10_beginAnew cX10_beginAnew 2 (Option.none : Option Jvm.ClassFile.FieldType) ∈ lw_all := tt25_all _ (List.mem_of_getElem? (i := 5) rfl)
theorem qw716 : Cond.methodLink RX10 39 yX7_copyFrom ∈ lw_all := tt25_all _ (List.mem_of_getElem? (i := 6) rfl)
theorem qw717 : Cond.instanceMethod yX7_copyFrom ∈ lw_all := tt25_all _ (List.mem_of_getElem? (i := 7) rfl)
theorem qw718 : Cond.selects RX7 yX7_copyFrom yX7_copyFrom ∈ lw_all := tt25_all _ (List.mem_of_getElem? (i := 8) rfl)
theorem qw719 : Cond.code yX7_copyFrom cX7_copyFrom 2 (Option.none : Option Jvm.ClassFile.FieldType) ∈ lw_all := tt25_all _ (List.mem_of_getElem? (i := 9) rfl)
theorem qw721 : Cond.methodLink RX11 93 yX3_forget ∈ lw_all := tt26_all _ (List.mem_of_getElem? (i := 0) rfl)
theorem qw722 : Cond.instanceMethod yX3_forget ∈ lw_all := tt26_all _ (List.mem_of_getElem? (i := 1) rfl)
theorem qw723 : Cond.selects RX3 yX3_forget yX3_forget ∈ lw_all := tt26_all _ (List.mem_of_getElem? (i := 2) rfl)
theorem qw724 : Cond.code yX3_forget cX3_forget 1 (Option.none : Option Jvm.ClassFile.FieldType) ∈ lw_all := tt26_all _ (List.mem_of_getElem? (i := 3) rfl)
theorem qw725 : Cond.methodLink RL 40 yX11_value ∈ lw_all := tt26_all _ (List.mem_of_getElem? (i := 4) rfl)
theorem qw726 : Cond.instanceMethod yX11_value ∈ lw_all := tt26_all _ (List.mem_of_getElem? (i := 5) rfl)
theorem qw727 : Cond.selects RX11 yX11_value yX11_value ∈ lw_all := tt26_all _ (List.mem_of_getElem? (i := 6) rfl)
theorem qw728 : Cond.code yX11_value cX11_value 2 (Option.some Jvm.ClassFile.FieldType.int) ∈ lw_all := tt26_all _ (List.mem_of_getElem? (i := 7) rfl)
theorem qw729 : Cond.methodLink RX11 232 yX10_seasonOn ∈ lw_all := tt26_all _ (List.mem_of_getElem? (i := 8) rfl)
theorem qw730 : Cond.instanceMethod yX10_seasonOn ∈ lw_all := tt26_all _ (List.mem_of_getElem? (i := 9) rfl)
theorem qw731 : Cond.selects RX10 yX10_seasonOn yX10_seasonOn ∈ lw_all := tt26_all _ (List.mem_of_getElem? (i := 10) rfl)
theorem qw732 : Cond.code yX10_seasonOn cX10_seasonOn 3 (Option.some Jvm.ClassFile.FieldType.int) ∈ lw_all := tt26_all _ (List.mem_of_getElem? (i := 11) rfl)
theorem qw733 : Cond.methodLink RX10 173 yX7_numberOf ∈ lw_all := tt26_all _ (List.mem_of_getElem? (i := 12) rfl)
theorem qw734 : Cond.instanceMethod yX7_numberOf ∈ lw_all := tt26_all _ (List.mem_of_getElem? (i := 13) rfl)
theorem qw735 : Cond.selects RX7 yX7_numberOf yX7_numberOf ∈ lw_all := tt26_all _ (List.mem_of_getElem? (i := 14) rfl)
theorem qw736 : Cond.code yX7_numberOf cX7_numberOf 2 (Option.some Jvm.ClassFile.FieldType.int) ∈ lw_all := tt26_all _ (List.mem_of_getElem? (i := 15) rfl)
theorem qw737 : Cond.methodLink RX10 176 yJ9_floorMod_7cf53 ∈ lw_all := tt26_all _ (List.mem_of_getElem? (i := 16) rfl)
theorem qw738 : Cond.methodLink RX11 235 yX7_boats ∈ lw_all := tt26_all _ (List.mem_of_getElem? (i := 17) rfl)
theorem qw739 : Cond.instanceMethod yX7_boats ∈ lw_all := tt26_all _ (List.mem_of_getElem? (i := 18) rfl)
theorem qw740 : Cond.selects RX7 yX7_boats yX7_boats ∈ lw_all := tt26_all _ (List.mem_of_getElem? (i := 19) rfl)
theorem qw741 : Cond.code yX7_boats cX7_boats 1 (Option.some Jvm.ClassFile.FieldType.int) ∈ lw_all := tt26_all _ (List.mem_of_getElem? (i := 20) rfl)
theorem qw742 : Cond.methodLink RX11 238 yX2_boatsOut ∈ lw_all := tt26_all _ (List.mem_of_getElem? (i := 21) rfl)
theorem qw743 : Cond.instanceMethod yX2_boatsOut ∈ lw_all := tt26_all _ (List.mem_of_getElem? (i := 22) rfl)
theorem qw744 : Cond.selects RX2 yX2_boatsOut yX2_boatsOut ∈ lw_all := tt26_all _ (List.mem_of_getElem? (i := 23) rfl)
theorem qw745 : Cond.code yX2_boatsOut cX2_boatsOut 3 (Option.some Jvm.ClassFile.FieldType.int) ∈ lw_all := tt26_all _ (List.mem_of_getElem? (i := 24) rfl)
theorem qw746 : Cond.methodLink RX2 77 yX2_isOut ∈ lw_all := tt27_all _ (List.mem_of_getElem? (i := 0) rfl)
theorem qw747 : Cond.instanceMethod yX2_isOut ∈ lw_all := tt27_all _ (List.mem_of_getElem? (i := 1) rfl)
theorem qw748 : Cond.selects RX2 yX2_isOut yX2_isOut ∈ lw_all := tt27_all _ (List.mem_of_getElem? (i := 2) rfl)
theorem qw749 : Cond.code yX2_isOut cX2_isOut 2 (Option.some Jvm.ClassFile.FieldType.boolean) ∈ lw_all := tt27_all _ (List.mem_of_getElem? (i := 3) rfl)
theorem qw750 : Cond.methodLink RX11 241 yX2_peopleAtSea ∈ lw_all := tt27_all _ (List.mem_of_getElem? (i := 4) rfl)
theorem qw751 : Cond.instanceMethod yX2_peopleAtSea ∈ lw_all := tt27_all _ (List.mem_of_getElem? (i := 5) rfl)
theorem qw752 : Cond.selects RX2 yX2_peopleAtSea yX2_peopleAtSea ∈ lw_all := tt27_all _ (List.mem_of_getElem? (i := 6) rfl)
theorem qw753 : Cond.code yX2_peopleAtSea cX2_peopleAtSea 3 (Option.some Jvm.ClassFile.FieldType.int) ∈ lw_all := tt27_all _ (List.mem_of_getElem? (i := 7) rfl)
theorem qw754 : Cond.methodLink RX2 70 yX2_isAtSea ∈ lw_all := tt27_all _ (List.mem_of_getElem? (i := 8) rfl)
theorem qw755 : Cond.methodLink RX11 244 yX10_needOfVote ∈ lw_all := tt27_all _ (List.mem_of_getElem? (i := 9) rfl)
theorem qw756 : Cond.instanceMethod yX10_needOfVote ∈ lw_all := tt27_all _ (List.mem_of_getElem? (i := 10) rfl)
theorem qw757 : Cond.selects RX10 yX10_needOfVote yX10_needOfVote ∈ lw_all := tt27_all _ (List.mem_of_getElem? (i := 11) rfl)
theorem qw758 : Cond.code yX10_needOfVote cX10_needOfVote 1 (Option.some Jvm.ClassFile.FieldType.int) ∈ lw_all := tt27_all _ (List.mem_of_getElem? (i := 12) rfl)
theorem qw759 : Cond.methodLink RX10 202 yX2_boatsOut ∈ lw_all := tt27_all _ (List.mem_of_getElem? (i := 13) rfl)
theorem qw760 : Cond.methodLink RX10 199 yX10_needOf ∈ lw_all := tt27_all _ (List.mem_of_getElem? (i := 14) rfl)
theorem qw761 : Cond.instanceMethod yX10_needOf ∈ lw_all := tt27_all _ (List.mem_of_getElem? (i := 15) rfl)
theorem qw762 : Cond.selects RX10 yX10_needOf yX10_needOf ∈ lw_all := tt27_all _ (List.mem_of_getElem? (i := 16) rfl)
theorem qw763 : Cond.code yX10_needOf cX10_needOf 5 (Option.some Jvm.ClassFile.FieldType.int) ∈ lw_all := tt27_all _ (List.mem_of_getElem? (i := 17) rfl)
theorem qw764 : Cond.methodLink RX10 187 yX10_seasonOn ∈ lw_all := tt27_all _ (List.mem_of_getElem? (i := 18) rfl)
theorem qw765 : Cond.methodLink RX10 190 yX7_people ∈ lw_all := tt27_all _ (List.mem_of_getElem? (i := 19) rfl)
theorem qw766 : Cond.methodLink RX10 193 yJ9_max_7cf53 ∈ lw_all := tt27_all _ (List.mem_of_getElem? (i := 20) rfl)
theorem qw767 : Cond.methodLink RX11 247 yX9_turnout ∈ lw_all := tt27_all _ (List.mem_of_getElem? (i := 21) rfl)
theorem qw768 : Cond.instanceMethod yX9_turnout ∈ lw_all := tt27_all _ (List.mem_of_getElem? (i := 22) rfl)
theorem qw769 : Cond.selects RX9 yX9_turnout yX9_turnout ∈ lw_all := tt27_all _ (List.mem_of_getElem? (i := 23) rfl)
theorem qw770 : Cond.code yX9_turnout cX9_turnout 1 (Option.some Jvm.ClassFile.FieldType.int) ∈ lw_all := tt27_all _ (List.mem_of_getElem? (i := 24) rfl)
theorem qw771 : Cond.methodLink RX9 64 yX9_countAt ∈ lw_all := tt28_all _ (List.mem_of_getElem? (i := 0) rfl)
theorem qw773 : Cond.instanceMethod yX9_countAt ∈ lw_all := tt28_all _ (List.mem_of_getElem? (i := 1) rfl)
theorem qw774 : Cond.code yX9_countAt cX9_countAt 4 (Option.some Jvm.ClassFile.FieldType.int) ∈ lw_all := tt28_all _ (List.mem_of_getElem? (i := 2) rfl)
theorem qw775 : Cond.methodLink RX11 195 yX10_stateOfVote ∈ lw_all := tt28_all _ (List.mem_of_getElem? (i := 3) rfl)
theorem qw776 : Cond.instanceMethod yX10_stateOfVote ∈ lw_all := tt28_all _ (List.mem_of_getElem? (i := 4) rfl)
theorem qw777 : Cond.selects RX10 yX10_stateOfVote yX10_stateOfVote ∈ lw_all := tt28_all _ (List.mem_of_getElem? (i := 5) rfl)
theorem qw778 : Cond.code yX10_stateOfVote cX10_stateOfVote 1 (Option.some Jvm.ClassFile.FieldType.int) ∈ lw_all := tt28_all _ (List.mem_of_getElem? (i := 6) rfl)
theorem qw779 : Cond.methodLink RX11 253 yX10_resultNow ∈ lw_all := tt28_all _ (List.mem_of_getElem? (i := 7) rfl)
theorem qw780 : Cond.instanceMethod yX10_resultNow ∈ lw_all := tt28_all _ (List.mem_of_getElem? (i := 8) rfl)
theorem qw781 : Cond.selects RX10 yX10_resultNow yX10_resultNow ∈ lw_all := tt28_all _ (List.mem_of_getElem? (i := 9) rfl)
theorem qw782 : Cond.code yX10_resultNow cX10_resultNow 1 (Option.some Jvm.ClassFile.FieldType.int) ∈ lw_all := tt28_all _ (List.mem_of_getElem? (i := 10) rfl)
theorem qw783 : Cond.methodLink RX10 167 yX10_needOfVote ∈ lw_all := tt28_all _ (List.mem_of_getElem? (i := 11) rfl)
theorem qw784 : Cond.methodLink RX10 151 yX10_resultFor ∈ lw_all := tt28_all _ (List.mem_of_getElem? (i := 12) rfl)
theorem qw786 : Cond.instanceMethod yX10_resultFor ∈ lw_all := tt28_all _ (List.mem_of_getElem? (i := 13) rfl)
theorem qw787 : Cond.code yX10_resultFor cX10_resultFor 2 (Option.some Jvm.ClassFile.FieldType.int) ∈ lw_all := tt28_all _ (List.mem_of_getElem? (i := 14) rfl)
theorem qw788 : Cond.methodLink RX10 220 yX0_takeFrom ∈ lw_all := tt28_all _ (List.mem_of_getElem? (i := 15) rfl)
theorem qw789 : Cond.instanceMethod yX0_takeFrom ∈ lw_all := tt28_all _ (List.mem_of_getElem? (i := 16) rfl)
theorem qw790 : Cond.selects RX0 yX0_takeFrom yX0_takeFrom ∈ lw_all := tt28_all _ (List.mem_of_getElem? (i := 17) rfl)
theorem qw791 : Cond.code yX0_takeFrom cX0_takeFrom 3 (Option.none : Option Jvm.ClassFile.FieldType) ∈ lw_all := tt28_all _ (List.mem_of_getElem? (i := 18) rfl)
theorem qw792 : Cond.methodLink RX0 18 yX9_placeOf ∈ lw_all := tt28_all _ (List.mem_of_getElem? (i := 19) rfl)
theorem qw793 : Cond.methodLink RX0 24 yX9_basketOf ∈ lw_all := tt28_all _ (List.mem_of_getElem? (i := 20) rfl)
theorem qw794 : Cond.instanceMethod yX9_basketOf ∈ lw_all := tt28_all _ (List.mem_of_getElem? (i := 21) rfl)
theorem qw795 : Cond.selects RX9 yX9_basketOf yX9_basketOf ∈ lw_all := tt28_all _ (List.mem_of_getElem? (i := 22) rfl)
theorem qw796 : Cond.code yX9_basketOf cX9_basketOf 2 (Option.some Jvm.ClassFile.FieldType.int) ∈ lw_all := tt28_all _ (List.mem_of_getElem? (i := 23) rfl)
theorem qw797 : Cond.methodLink RX10 224 yX0_result ∈ lw_all := tt28_all _ (List.mem_of_getElem? (i := 24) rfl)
theorem qw798 : Cond.instanceMethod yX0_result ∈ lw_all := tt29_all _ (List.mem_of_getElem? (i := 0) rfl)
theorem qw799 : Cond.selects RX0 yX0_result yX0_result ∈ lw_all := tt29_all _ (List.mem_of_getElem? (i := 1) rfl)
theorem qw800 : Cond.code yX0_result cX0_result 4 (Option.some Jvm.ClassFile.FieldType.int) ∈ lw_all := tt29_all _ (List.mem_of_getElem? (i := 2) rfl)
theorem qw801 : Cond.methodLink RX0 30 yX0_countAll ∈ lw_all := tt29_all _ (List.mem_of_getElem? (i := 3) rfl)
theorem qw803 : Cond.instanceMethod yX0_countAll ∈ lw_all := tt29_all _ (List.mem_of_getElem? (i := 4) rfl)
theorem qw804 : Cond.code yX0_countAll cX0_countAll 4 (Option.some Jvm.ClassFile.FieldType.int) ∈ lw_all := tt29_all _ (List.mem_of_getElem? (i := 5) rfl)
theorem qw807 : Cond.static yX11_isBasket ∈ lw_all := tt29_all _ (List.mem_of_getElem? (i := 6) rfl)
theorem qw808 : Cond.code yX11_isBasket cX11_isBasket 1 (Option.some Jvm.ClassFile.FieldType.boolean) ∈ lw_all := tt29_all _ (List.mem_of_getElem? (i := 7) rfl)
theorem qw811 : Cond.methodLink RX0 34 yJ9_max_7cf53 ∈ lw_all := tt29_all _ (List.mem_of_getElem? (i := 8) rfl)
theorem qw812 : Cond.methodLink RX11 256 yX9_struckOnes ∈ lw_all := tt29_all _ (List.mem_of_getElem? (i := 9) rfl)
theorem qw813 : Cond.instanceMethod yX9_struckOnes ∈ lw_all := tt29_all _ (List.mem_of_getElem? (i := 10) rfl)
theorem qw814 : Cond.selects RX9 yX9_struckOnes yX9_struckOnes ∈ lw_all := tt29_all _ (List.mem_of_getElem? (i := 11) rfl)
theorem qw815 : Cond.code yX9_struckOnes cX9_struckOnes 1 (Option.some Jvm.ClassFile.FieldType.int) ∈ lw_all := tt29_all _ (List.mem_of_getElem? (i := 12) rfl)
theorem qw816 : Cond.methodLink RX11 266 yX5_size ∈ lw_all := tt29_all _ (List.mem_of_getElem? (i := 13) rfl)
theorem qw817 : Cond.instanceMethod yX5_size ∈ lw_all := tt29_all _ (List.mem_of_getElem? (i := 14) rfl)
theorem qw818 : Cond.selects RX5 yX5_size yX5_size ∈ lw_all := tt29_all _ (List.mem_of_getElem? (i := 15) rfl)
theorem qw819 : Cond.code yX5_size cX5_size 1 (Option.some Jvm.ClassFile.FieldType.int) ∈ lw_all := tt29_all _ (List.mem_of_getElem? (i := 16) rfl)
theorem qw820 : Cond.methodLink RX5 32 yJ9_min_7cf53 ∈ lw_all := tt29_all _ (List.mem_of_getElem? (i := 17) rfl)
theorem qw821 : Cond.methodLink RX11 271 yX9_wrongMask ∈ lw_all := tt29_all _ (List.mem_of_getElem? (i := 18) rfl)
theorem qw822 : Cond.instanceMethod yX9_wrongMask ∈ lw_all := tt29_all _ (List.mem_of_getElem? (i := 19) rfl)
theorem qw823 : Cond.selects RX9 yX9_wrongMask yX9_wrongMask ∈ lw_all := tt29_all _ (List.mem_of_getElem? (i := 20) rfl)
theorem qw824 : Cond.code yX9_wrongMask cX9_wrongMask 3 (Option.some Jvm.ClassFile.FieldType.int) ∈ lw_all := tt29_all _ (List.mem_of_getElem? (i := 21) rfl)
theorem qw825 : Cond.methodLink RX9 70 yX9_isWrong ∈ lw_all := tt29_all _ (List.mem_of_getElem? (i := 22) rfl)
theorem qw826 : Cond.instanceMethod yX9_isWrong ∈ lw_all := tt29_all _ (List.mem_of_getElem? (i := 23) rfl)
theorem qw827 : Cond.selects RX9 yX9_isWrong yX9_isWrong ∈ lw_all := tt29_all _ (List.mem_of_getElem? (i := 24) rfl)
theorem qw828 : Cond.code yX9_isWrong cX9_isWrong 2 (Option.some Jvm.ClassFile.FieldType.boolean) ∈ lw_all := tt30_all _ (List.mem_of_getElem? (i := 0) rfl)
theorem qw829 : Cond.methodLink RX9 49 yX9_reasonOf ∈ lw_all := tt30_all _ (List.mem_of_getElem? (i := 1) rfl)
theorem qw830 : Cond.instanceMethod yX9_reasonOf ∈ lw_all := tt30_all _ (List.mem_of_getElem? (i := 2) rfl)
theorem qw831 : Cond.selects RX9 yX9_reasonOf yX9_reasonOf ∈ lw_all := tt30_all _ (List.mem_of_getElem? (i := 3) rfl)
theorem qw832 : Cond.code yX9_reasonOf cX9_reasonOf 2 (Option.some Jvm.ClassFile.FieldType.int) ∈ lw_all := tt30_all _ (List.mem_of_getElem? (i := 4) rfl)
theorem qw833 : Cond.methodLink RL 43 yX11_errorPosition ∈ lw_all := tt30_all _ (List.mem_of_getElem? (i := 5) rfl)
theorem qw834 : Cond.instanceMethod yX11_errorPosition ∈ lw_all := tt30_all _ (List.mem_of_getElem? (i := 6) rfl)
theorem qw835 : Cond.selects RX11 yX11_errorPosition yX11_errorPosition ∈ lw_all := tt30_all _ (List.mem_of_getElem? (i := 7) rfl)
theorem qw836 : Cond.code yX11_errorPosition cX11_errorPosition 1 (Option.some Jvm.ClassFile.FieldType.int) ∈ lw_all := tt30_all _ (List.mem_of_getElem? (i := 8) rfl)
theorem qw837 : Cond.methodLink RL 267 yL_setup ∈ lw_all := tt30_all _ (List.mem_of_getElem? (i := 9) rfl)
theorem qw838 : Cond.static yL_setup ∈ lw_all := tt30_all _ (List.mem_of_getElem? (i := 10) rfl)
theorem qw839 : Cond.code yL_setup cL_setup 4 (Option.some (Jvm.ClassFile.FieldType.object "java/lang/String")) ∈ lw_all := tt30_all _ (List.mem_of_getElem? (i := 11) rfl)
theorem qw840 : Cond.classLink RL 46 RJ4 ∈ lw_all := tt30_all _ (List.mem_of_getElem? (i := 12) rfl)
theorem qw841 : Cond.instantiable RJ4 4 ∈ lw_all := tt30_all _ (List.mem_of_getElem? (i := 13) rfl)
theorem qw843 : Cond.methodLink RL 50 yJ4_init_a7421 ∈ lw_all := tt30_all _ (List.mem_of_getElem? (i := 14) rfl)
theorem qw844 : Cond.instanceMethod yJ4_init_a7421 ∈ lw_all := tt30_all _ (List.mem_of_getElem? (i := 15) rfl)
theorem qw845 : Cond.code yJ4_init_a7421 cJ4_init_a7421 2 (Option.none : Option Jvm.ClassFile.FieldType) ∈ lw_all := tt30_all _ (List.mem_of_getElem? (i := 16) rfl)
theorem qw846 : Cond.methodLink RJ4 7 yJ5_init_a7421 ∈ lw_all := tt30_all _ (List.mem_of_getElem? (i := 17) rfl)
theorem qw847 : Cond.instanceMethod yJ5_init_a7421 ∈ lw_all := tt30_all _ (List.mem_of_getElem? (i := 18) rfl)
theorem qw848 : Cond.code yJ5_init_a7421 cJ5_init_a7421 5 (Option.none : Option Jvm.ClassFile.FieldType) ∈ lw_all := tt30_all _ (List.mem_of_getElem? (i := 19) rfl)
theorem qw849 : Cond.methodLink RJ5 3 objectInit ∈ lw_all := tt30_all _ (List.mem_of_getElem? (i := 20) rfl)
theorem qw850 : Cond.methodLink RJ5 32 yJ0_length_8abf5 ∈ lw_all := tt30_all _ (List.mem_of_getElem? (i := 21) rfl)
theorem qw851 : Cond.constant RJ5 38 (2147483631 : Int32) ∈ lw_all := tt30_all _ (List.mem_of_getElem? (i := 22) rfl)
theorem qw852 : Cond.constant RJ5 39 (2147483647 : Int32) ∈ lw_all := tt30_all _ (List.mem_of_getElem? (i := 23) rfl)
theorem qw853 : Cond.methodLink RJ5 40 yJ0_coder_7d493 ∈ lw_all := tt30_all _ (List.mem_of_getElem? (i := 24) rfl)
theorem qw854 : Cond.methodLink RJ5 26 yJ2_newBytesFor_77867 ∈ lw_all := tt31_all _ (List.mem_of_getElem? (i := 0) rfl)
theorem qw855 : Cond.static yJ2_newBytesFor_77867 ∈ lw_all := tt31_all _ (List.mem_of_getElem? (i := 1) rfl)
theorem qw856 : Cond.code yJ2_newBytesFor_77867 cJ2_newBytesFor_77867 1 (Option.some (Jvm.ClassFile.FieldType.array Jvm.ClassFile.FieldType.byte)) ∈ lw_all := tt31_all _ (List.mem_of_getElem? (i := 2) rfl)
theorem qw857 : Cond.methodLink RJ2 11 yJ2_newBytesLength_0f7a4 ∈ lw_all := tt31_all _ (List.mem_of_getElem? (i := 3) rfl)
theorem qw858 : Cond.static yJ2_newBytesLength_0f7a4 ∈ lw_all := tt31_all _ (List.mem_of_getElem? (i := 4) rfl)
theorem qw859 : Cond.code yJ2_newBytesLength_0f7a4 cJ2_newBytesLength_0f7a4 1 (Option.some Jvm.ClassFile.FieldType.int) ∈ lw_all := tt31_all _ (List.mem_of_getElem? (i := 5) rfl)
theorem qw860 : Cond.constant RJ2 20 (1073741823 : Int32) ∈ lw_all := tt31_all _ (List.mem_of_getElem? (i := 6) rfl)
theorem qw861 : Cond.methodLink RJ5 43 yJ5_append_cf1ce ∈ lw_all := tt31_all _ (List.mem_of_getElem? (i := 7) rfl)
theorem qw862 : Cond.instanceMethod yJ5_append_cf1ce ∈ lw_all := tt31_all _ (List.mem_of_getElem? (i := 8) rfl)
theorem qw863 : Cond.sameMethod RJ5 RJ5 "append" "(Ljava/lang/String;)Ljava/lang/AbstractStringBuilder;" ∈ lw_all := tt31_all _ (List.mem_of_getElem? (i := 9) rfl)
theorem qw864 : Cond.selects RJ4 yJ5_append_cf1ce yJ4_append_cf1ce ∈ lw_all := tt31_all _ (List.mem_of_getElem? (i := 10) rfl)
theorem qw865 : Cond.instanceMethod yJ4_append_cf1ce ∈ lw_all := tt31_all _ (List.mem_of_getElem? (i := 11) rfl)
theorem qw866 : Cond.code yJ4_append_cf1ce cJ4_append_cf1ce 2 (Option.some (Jvm.ClassFile.FieldType.object "java/lang/AbstractStringBuilder")) ∈ lw_all := tt31_all _ (List.mem_of_getElem? (i := 12) rfl)
theorem qw867 : Cond.methodLink RJ4 23 yJ4_append_15ec4 ∈ lw_all := tt31_all _ (List.mem_of_getElem? (i := 13) rfl)
theorem qw868 : Cond.instanceMethod yJ4_append_15ec4 ∈ lw_all := tt31_all _ (List.mem_of_getElem? (i := 14) rfl)
theorem qw869 : Cond.selects RJ4 yJ4_append_15ec4 yJ4_append_15ec4 ∈ lw_all := tt31_all _ (List.mem_of_getElem? (i := 15) rfl)
theorem qw870 : Cond.code yJ4_append_15ec4 cJ4_append_15ec4 2 (Option.some (Jvm.ClassFile.FieldType.object "java/lang/StringBuilder")) ∈ lw_all := tt31_all _ (List.mem_of_getElem? (i := 16) rfl)
theorem qw871 : Cond.methodLink RJ4 29 yJ5_append_cf1ce ∈ lw_all := tt31_all _ (List.mem_of_getElem? (i := 17) rfl)
theorem qw872 : Cond.superclass RJ4 RJ5 ∈ lw_all := tt31_all _ (List.mem_of_getElem? (i := 18) rfl)
theorem qw873 : Cond.code yJ5_append_cf1ce cJ5_append_cf1ce 3 (Option.some (Jvm.ClassFile.FieldType.object "java/lang/AbstractStringBuilder")) ∈ lw_all := tt31_all _ (List.mem_of_getElem? (i := 19) rfl)
theorem qw874 : Cond.methodLink RJ5 204 yJ5_appendNull_278bc ∈ lw_all := tt31_all _ (List.mem_of_getElem? (i := 20) rfl)
theorem qw876 : Cond.instanceMethod yJ5_appendNull_278bc ∈ lw_all := tt31_all _ (List.mem_of_getElem? (i := 21) rfl)
theorem qw877 : Cond.code yJ5_appendNull_278bc cJ5_appendNull_278bc 3 (Option.some (Jvm.ClassFile.FieldType.object "java/lang/AbstractStringBuilder")) ∈ lw_all := tt31_all _ (List.mem_of_getElem? (i := 22) rfl)
theorem qw878 : Cond.methodLink RJ5 100 yJ5_ensureCapacityInternal_d00df ∈ lw_all := tt31_all _ (List.mem_of_getElem? (i := 23) rfl)
theorem qw880 : Cond.instanceMethod yJ5_ensureCapacityInternal_d00df ∈ lw_all := tt31_all _ (List.mem_of_getElem? (i := 24) rfl)
theorem qw881 : Cond.code yJ5_ensureCapacityInternal_d00df cJ5_ensureCapacityInternal_d00df 3 (Option.none : Option Jvm.ClassFile.FieldType) ∈ lw_all := tt32_all _ (List.mem_of_getElem? (i := 0) rfl)
theorem qw882 : Cond.methodLink RJ5 104 yJ5_newCapacity_0f7a4 ∈ lw_all := tt32_all _ (List.mem_of_getElem? (i := 1) rfl)
theorem qw884 : Cond.instanceMethod yJ5_newCapacity_0f7a4 ∈ lw_all := tt32_all _ (List.mem_of_getElem? (i := 2) rfl)
theorem qw885 : Cond.code yJ5_newCapacity_0f7a4 cJ5_newCapacity_0f7a4 6 (Option.some Jvm.ClassFile.FieldType.int) ∈ lw_all := tt32_all _ (List.mem_of_getElem? (i := 3) rfl)
theorem qw886 : Cond.methodLink RJ5 114 yJ8_newLength_cabcc ∈ lw_all := tt32_all _ (List.mem_of_getElem? (i := 4) rfl)
theorem qw887 : Cond.static yJ8_newLength_cabcc ∈ lw_all := tt32_all _ (List.mem_of_getElem? (i := 5) rfl)
theorem qw888 : Cond.code yJ8_newLength_cabcc cJ8_newLength_cabcc 4 (Option.some Jvm.ClassFile.FieldType.int) ∈ lw_all := tt32_all _ (List.mem_of_getElem? (i := 6) rfl)
theorem qw889 : Cond.methodLink RJ8 194 yJ9_max_7cf53 ∈ lw_all := tt32_all _ (List.mem_of_getElem? (i := 7) rfl)
theorem qw890 : Cond.constant RJ8 200 (2147483639 : Int32) ∈ lw_all := tt32_all _ (List.mem_of_getElem? (i := 8) rfl)
theorem qw891 : Cond.methodLink RJ8 201 yJ8_hugeLength_7cf53 ∈ lw_all := tt32_all _ (List.mem_of_getElem? (i := 9) rfl)
theorem qw892 : Cond.static yJ8_hugeLength_7cf53 ∈ lw_all := tt32_all _ (List.mem_of_getElem? (i := 10) rfl)
theorem qw893 : Cond.code yJ8_hugeLength_7cf53 cJ8_hugeLength_7cf53 3 (Option.some Jvm.ClassFile.FieldType.int) ∈ lw_all := tt32_all _ (List.mem_of_getElem? (i := 11) rfl)
theorem qw894 : Cond.methodLink RJ5 108 yJ7_copyOf_9075b ∈ lw_all := tt32_all _ (List.mem_of_getElem? (i := 12) rfl)
theorem qw895 : Cond.static yJ7_copyOf_9075b ∈ lw_all := tt32_all _ (List.mem_of_getElem? (i := 13) rfl)
theorem qw896 : Cond.code yJ7_copyOf_9075b cJ7_copyOf_9075b 3 (Option.some (Jvm.ClassFile.FieldType.array Jvm.ClassFile.FieldType.byte)) ∈ lw_all := tt32_all _ (List.mem_of_getElem? (i := 14) rfl)
theorem qw897 : Cond.methodLink RJ7 310 ⟨"[B", "clone", "()Ljava/lang/Object;"⟩ ∈ lw_all := tt32_all _ (List.mem_of_getElem? (i := 15) rfl)
theorem qw898 : Cond.sameMethod "[B" "java/lang/Object" "clone" "()Ljava/lang/Object;" ∈ lw_all := tt32_all _ (List.mem_of_getElem? (i := 16) rfl)
theorem qw899 : Cond.native ⟨"java/lang/Object", "clone", "()Ljava/lang/Object;"⟩ ∈ lw_all := tt32_all _ (List.mem_of_getElem? (i := 17) rfl)
theorem qw900 : Cond.instanceMethod ⟨"java/lang/Object", "clone", "()Ljava/lang/Object;"⟩ ∈ lw_all := tt32_all _ (List.mem_of_getElem? (i := 18) rfl)
theorem qw901 : Cond.selects "[B" ⟨"[B", "clone", "()Ljava/lang/Object;"⟩ ⟨"java/lang/Object", "clone", "()Ljava/lang/Object;"⟩ ∈ lw_all := tt32_all _ (List.mem_of_getElem? (i := 19) rfl)
theorem qw903 : Cond.classLink RJ7 311 "[B" ∈ lw_all := tt32_all _ (List.mem_of_getElem? (i := 20) rfl)
theorem qw904 : Cond.methodLink RJ7 304 yJ9_min_7cf53 ∈ lw_all := tt32_all _ (List.mem_of_getElem? (i := 21) rfl)
theorem qw905 : Cond.methodLink RJ7 150 ⟨"java/lang/System", "arraycopy", "(Ljava/lang/Object;ILjava/lang/Object;II)V"⟩ ∈ lw_all := tt32_all _ (List.mem_of_getElem? (i := 22) rfl)
theorem qw906 : Cond.methodLink RJ5 83 yJ5_isLatin1_aae02 ∈ lw_all := tt32_all _ (List.mem_of_getElem? (i := 23) rfl)
theorem qw907 : Cond.instanceMethod yJ5_isLatin1_aae02 ∈ lw_all := tt32_all _ (List.mem_of_getElem? (i := 24) rfl)
theorem qw908 : Cond.sameMethod RJ5 RJ5 "isLatin1" "()Z" ∈ lw_all := tt33_all _ (List.mem_of_getElem? (i := 0) rfl)
theorem qw909 : Cond.selects RJ4 yJ5_isLatin1_aae02 yJ5_isLatin1_aae02 ∈ lw_all := tt33_all _ (List.mem_of_getElem? (i := 1) rfl)
theorem qw910 : Cond.code yJ5_isLatin1_aae02 cJ5_isLatin1_aae02 1 (Option.some Jvm.ClassFile.FieldType.boolean) ∈ lw_all := tt33_all _ (List.mem_of_getElem? (i := 2) rfl)
theorem qw911 : Cond.fieldLink RJ5 18 "java/lang/String" "COMPACT_STRINGS" "Z" ∈ lw_all := tt33_all _ (List.mem_of_getElem? (i := 3) rfl)
theorem qw912 : Cond.methodLink RJ5 226 yJ2_putCharsAt_cd4e5 ∈ lw_all := tt33_all _ (List.mem_of_getElem? (i := 4) rfl)
theorem qw913 : Cond.static yJ2_putCharsAt_cd4e5 ∈ lw_all := tt33_all _ (List.mem_of_getElem? (i := 5) rfl)
theorem qw914 : Cond.code yJ2_putCharsAt_cd4e5 cJ2_putCharsAt_cd4e5 7 (Option.some Jvm.ClassFile.FieldType.int) ∈ lw_all := tt33_all _ (List.mem_of_getElem? (i := 6) rfl)
theorem qw915 : Cond.methodLink RJ2 96 yJ2_checkBoundsBeginEnd_d044e ∈ lw_all := tt33_all _ (List.mem_of_getElem? (i := 7) rfl)
theorem qw916 : Cond.static yJ2_checkBoundsBeginEnd_d044e ∈ lw_all := tt33_all _ (List.mem_of_getElem? (i := 8) rfl)
theorem qw917 : Cond.code yJ2_checkBoundsBeginEnd_d044e cJ2_checkBoundsBeginEnd_d044e 3 (Option.none : Option Jvm.ClassFile.FieldType) ∈ lw_all := tt33_all _ (List.mem_of_getElem? (i := 9) rfl)
theorem qw918 : Cond.methodLink RJ2 241 yJ0_checkBoundsBeginEnd_23922 ∈ lw_all := tt33_all _ (List.mem_of_getElem? (i := 10) rfl)
theorem qw919 : Cond.static yJ0_checkBoundsBeginEnd_23922 ∈ lw_all := tt33_all _ (List.mem_of_getElem? (i := 11) rfl)
theorem qw920 : Cond.code yJ0_checkBoundsBeginEnd_23922 cJ0_checkBoundsBeginEnd_23922 3 (Option.none : Option Jvm.ClassFile.FieldType) ∈ lw_all := tt33_all _ (List.mem_of_getElem? (i := 12) rfl)
theorem qw921 : Cond.methodLink RJ0 1062 yJ3_checkFromToIndex_8c36e ∈ lw_all := tt33_all _ (List.mem_of_getElem? (i := 13) rfl)
theorem qw922 : Cond.static yJ3_checkFromToIndex_8c36e ∈ lw_all := tt33_all _ (List.mem_of_getElem? (i := 14) rfl)
theorem qw923 : Cond.code yJ3_checkFromToIndex_8c36e cJ3_checkFromToIndex_8c36e 4 (Option.some Jvm.ClassFile.FieldType.int) ∈ lw_all := tt33_all _ (List.mem_of_getElem? (i := 15) rfl)
theorem qw924 : Cond.methodLink RJ2 111 yJ2_putChar_b72d1 ∈ lw_all := tt33_all _ (List.mem_of_getElem? (i := 16) rfl)
theorem qw925 : Cond.static yJ2_putChar_b72d1 ∈ lw_all := tt33_all _ (List.mem_of_getElem? (i := 17) rfl)
theorem qw926 : Cond.code yJ2_putChar_b72d1 cJ2_putChar_b72d1 3 (Option.none : Option Jvm.ClassFile.FieldType) ∈ lw_all := tt33_all _ (List.mem_of_getElem? (i := 18) rfl)
theorem qw927 : Cond.methodLink RJ5 208 yJ5_putStringAt_47b60 ∈ lw_all := tt33_all _ (List.mem_of_getElem? (i := 19) rfl)
theorem qw929 : Cond.instanceMethod yJ5_putStringAt_47b60 ∈ lw_all := tt33_all _ (List.mem_of_getElem? (i := 20) rfl)
theorem qw930 : Cond.code yJ5_putStringAt_47b60 cJ5_putStringAt_47b60 3 (Option.none : Option Jvm.ClassFile.FieldType) ∈ lw_all := tt33_all _ (List.mem_of_getElem? (i := 21) rfl)
theorem qw931 : Cond.methodLink RJ5 397 yJ5_inflateIfNeededFor_a7421 ∈ lw_all := tt33_all _ (List.mem_of_getElem? (i := 22) rfl)
theorem qw933 : Cond.instanceMethod yJ5_inflateIfNeededFor_a7421 ∈ lw_all := tt33_all _ (List.mem_of_getElem? (i := 23) rfl)
theorem qw934 : Cond.code yJ5_inflateIfNeededFor_a7421 cJ5_inflateIfNeededFor_a7421 2 (Option.none : Option Jvm.ClassFile.FieldType) ∈ lw_all := tt33_all _ (List.mem_of_getElem? (i := 24) rfl)
theorem qw935 : Cond.methodLink RJ5 195 yJ5_inflate_da8c8 ∈ lw_all := tt34_all _ (List.mem_of_getElem? (i := 0) rfl)
theorem qw937 : Cond.instanceMethod yJ5_inflate_da8c8 ∈ lw_all := tt34_all _ (List.mem_of_getElem? (i := 1) rfl)
theorem qw938 : Cond.code yJ5_inflate_da8c8 cJ5_inflate_da8c8 2 (Option.none : Option Jvm.ClassFile.FieldType) ∈ lw_all := tt34_all _ (List.mem_of_getElem? (i := 2) rfl)
theorem qw939 : Cond.methodLink RJ5 125 yJ1_inflate_0e8fd ∈ lw_all := tt34_all _ (List.mem_of_getElem? (i := 3) rfl)
theorem qw940 : Cond.static yJ1_inflate_0e8fd ∈ lw_all := tt34_all _ (List.mem_of_getElem? (i := 4) rfl)
theorem qw941 : Cond.code yJ1_inflate_0e8fd cJ1_inflate_0e8fd 5 (Option.none : Option Jvm.ClassFile.FieldType) ∈ lw_all := tt34_all _ (List.mem_of_getElem? (i := 5) rfl)
theorem qw942 : Cond.methodLink RJ1 240 yJ2_inflate_0e8fd ∈ lw_all := tt34_all _ (List.mem_of_getElem? (i := 6) rfl)
theorem qw943 : Cond.static yJ2_inflate_0e8fd ∈ lw_all := tt34_all _ (List.mem_of_getElem? (i := 7) rfl)
theorem qw944 : Cond.code yJ2_inflate_0e8fd cJ2_inflate_0e8fd 6 (Option.none : Option Jvm.ClassFile.FieldType) ∈ lw_all := tt34_all _ (List.mem_of_getElem? (i := 8) rfl)
theorem qw945 : Cond.methodLink RJ2 173 yJ2_checkBoundsOffCount_d044e ∈ lw_all := tt34_all _ (List.mem_of_getElem? (i := 9) rfl)
theorem qw946 : Cond.static yJ2_checkBoundsOffCount_d044e ∈ lw_all := tt34_all _ (List.mem_of_getElem? (i := 10) rfl)
theorem qw947 : Cond.code yJ2_checkBoundsOffCount_d044e cJ2_checkBoundsOffCount_d044e 3 (Option.none : Option Jvm.ClassFile.FieldType) ∈ lw_all := tt34_all _ (List.mem_of_getElem? (i := 11) rfl)
theorem qw948 : Cond.methodLink RJ2 419 yJ0_checkBoundsOffCount_cabcc ∈ lw_all := tt34_all _ (List.mem_of_getElem? (i := 12) rfl)
theorem qw949 : Cond.static yJ0_checkBoundsOffCount_cabcc ∈ lw_all := tt34_all _ (List.mem_of_getElem? (i := 13) rfl)
theorem qw950 : Cond.code yJ0_checkBoundsOffCount_cabcc cJ0_checkBoundsOffCount_cabcc 3 (Option.some Jvm.ClassFile.FieldType.int) ∈ lw_all := tt34_all _ (List.mem_of_getElem? (i := 14) rfl)
theorem qw951 : Cond.methodLink RJ0 1065 yJ3_checkFromIndexSize_8c36e ∈ lw_all := tt34_all _ (List.mem_of_getElem? (i := 15) rfl)
theorem qw952 : Cond.static yJ3_checkFromIndexSize_8c36e ∈ lw_all := tt34_all _ (List.mem_of_getElem? (i := 16) rfl)
theorem qw953 : Cond.code yJ3_checkFromIndexSize_8c36e cJ3_checkFromIndexSize_8c36e 4 (Option.some Jvm.ClassFile.FieldType.int) ∈ lw_all := tt34_all _ (List.mem_of_getElem? (i := 17) rfl)
theorem qw954 : Cond.methodLink RJ5 399 yJ0_getBytes_840e7 ∈ lw_all := tt34_all _ (List.mem_of_getElem? (i := 18) rfl)
theorem qw955 : Cond.instanceMethod yJ0_getBytes_840e7 ∈ lw_all := tt34_all _ (List.mem_of_getElem? (i := 19) rfl)
theorem qw956 : Cond.selects RJ0 yJ0_getBytes_840e7 yJ0_getBytes_840e7 ∈ lw_all := tt34_all _ (List.mem_of_getElem? (i := 20) rfl)
theorem qw957 : Cond.code yJ0_getBytes_840e7 cJ0_getBytes_840e7 4 (Option.none : Option Jvm.ClassFile.FieldType) ∈ lw_all := tt34_all _ (List.mem_of_getElem? (i := 21) rfl)
theorem qw958 : Cond.methodLink RJ0 212 ⟨"java/lang/System", "arraycopy", "(Ljava/lang/Object;ILjava/lang/Object;II)V"⟩ ∈ lw_all := tt34_all _ (List.mem_of_getElem? (i := 22) rfl)
theorem qw959 : Cond.methodLink RJ0 106 yJ1_inflate_0e8fd ∈ lw_all := tt34_all _ (List.mem_of_getElem? (i := 23) rfl)
theorem qw960 : Cond.fieldLink RJ5 15 "java/lang/AbstractStringBuilder" "value" "[B" ∈ lw_all := tt35_all _ (List.mem_of_getElem? (i := 0) rfl)
theorem qw961 : Cond.fieldLink RJ5 22 "java/lang/AbstractStringBuilder" "coder" "B" ∈ lw_all := tt35_all _ (List.mem_of_getElem? (i := 1) rfl)
theorem qw962 : Cond.fieldLink RJ0 1048 "java/lang/AbstractStringBuilder" "maybeLatin1" "Z" ∈ lw_all := tt35_all _ (List.mem_of_getElem? (i := 2) rfl)
theorem qw963 : Cond.fieldLink RJ5 79 "java/lang/AbstractStringBuilder" "count" "I" ∈ lw_all := tt35_all _ (List.mem_of_getElem? (i := 3) rfl)
theorem qw964 : Cond.lays RJ4 "java/lang/AbstractStringBuilder" "value" "[B" ∈ lw_all := tt35_all _ (List.mem_of_getElem? (i := 4) rfl)
theorem qw966 : Cond.lays RJ4 "java/lang/AbstractStringBuilder" "coder" "B" ∈ lw_all := tt35_all _ (List.mem_of_getElem? (i := 5) rfl)
theorem qw968 : Cond.lays RJ4 "java/lang/AbstractStringBuilder" "maybeLatin1" "Z" ∈ lw_all := tt35_all _ (List.mem_of_getElem? (i := 6) rfl)
theorem qw970 : Cond.lays RJ4 "java/lang/AbstractStringBuilder" "count" "I" ∈ lw_all := tt35_all _ (List.mem_of_getElem? (i := 7) rfl)
theorem qw972 : Cond.methodLink RL 53 yL_draw ∈ lw_all := tt35_all _ (List.mem_of_getElem? (i := 8) rfl)
theorem qw973 : Cond.static yL_draw ∈ lw_all := tt35_all _ (List.mem_of_getElem? (i := 9) rfl)
theorem qw974 : Cond.code yL_draw cL_draw 1 (Option.some Jvm.ClassFile.FieldType.int) ∈ lw_all := tt35_all _ (List.mem_of_getElem? (i := 10) rfl)
theorem qw975 : Cond.constant RL 7 (1103515245 : Int32) ∈ lw_all := tt35_all _ (List.mem_of_getElem? (i := 11) rfl)
theorem qw976 : Cond.methodLink RL 57 yJ4_append_bf812 ∈ lw_all := tt35_all _ (List.mem_of_getElem? (i := 12) rfl)
theorem qw977 : Cond.instanceMethod yJ4_append_bf812 ∈ lw_all := tt35_all _ (List.mem_of_getElem? (i := 13) rfl)
theorem qw978 : Cond.selects RJ4 yJ4_append_bf812 yJ4_append_bf812 ∈ lw_all := tt35_all _ (List.mem_of_getElem? (i := 14) rfl)
theorem qw979 : Cond.code yJ4_append_bf812 cJ4_append_bf812 2 (Option.some (Jvm.ClassFile.FieldType.object "java/lang/StringBuilder")) ∈ lw_all := tt35_all _ (List.mem_of_getElem? (i := 15) rfl)
theorem qw980 : Cond.methodLink RJ4 53 yJ5_append_c97b9 ∈ lw_all := tt35_all _ (List.mem_of_getElem? (i := 16) rfl)
theorem qw981 : Cond.instanceMethod yJ5_append_c97b9 ∈ lw_all := tt35_all _ (List.mem_of_getElem? (i := 17) rfl)
theorem qw982 : Cond.code yJ5_append_c97b9 cJ5_append_c97b9 4 (Option.some (Jvm.ClassFile.FieldType.object "java/lang/AbstractStringBuilder")) ∈ lw_all := tt35_all _ (List.mem_of_getElem? (i := 18) rfl)
theorem qw983 : Cond.methodLink RJ5 245 yJ6_stringSize_0f7a4 ∈ lw_all := tt35_all _ (List.mem_of_getElem? (i := 19) rfl)
theorem qw984 : Cond.static yJ6_stringSize_0f7a4 ∈ lw_all := tt35_all _ (List.mem_of_getElem? (i := 20) rfl)
theorem qw985 : Cond.code yJ6_stringSize_0f7a4 cJ6_stringSize_0f7a4 4 (Option.some Jvm.ClassFile.FieldType.int) ∈ lw_all := tt35_all _ (List.mem_of_getElem? (i := 21) rfl)
theorem qw986 : Cond.methodLink RJ5 248 yJ6_getChars_ba4f3 ∈ lw_all := tt35_all _ (List.mem_of_getElem? (i := 22) rfl)
theorem qw987 : Cond.static yJ6_getChars_ba4f3 ∈ lw_all := tt35_all _ (List.mem_of_getElem? (i := 23) rfl)
theorem qw988 : Cond.code yJ6_getChars_ba4f3 cJ6_getChars_ba4f3 7 (Option.some Jvm.ClassFile.FieldType.int) ∈ lw_all := tt35_all _ (List.mem_of_getElem? (i := 24) rfl)
theorem qw989 : Cond.fieldLink RJ6 83 "java/lang/Integer" "DigitOnes" "[B" ∈ lw_all := tt36_all _ (List.mem_of_getElem? (i := 0) rfl)
theorem qw991 : Cond.fieldLink RJ6 87 "java/lang/Integer" "DigitTens" "[B" ∈ lw_all := tt36_all _ (List.mem_of_getElem? (i := 1) rfl)
theorem qw993 : Cond.methodLink RJ5 251 yJ2_getChars_46870 ∈ lw_all := tt36_all _ (List.mem_of_getElem? (i := 2) rfl)
theorem qw994 : Cond.static yJ2_getChars_46870 ∈ lw_all := tt36_all _ (List.mem_of_getElem? (i := 3) rfl)
theorem qw995 : Cond.code yJ2_getChars_46870 cJ2_getChars_46870 5 (Option.some Jvm.ClassFile.FieldType.int) ∈ lw_all := tt36_all _ (List.mem_of_getElem? (i := 4) rfl)
theorem qw996 : Cond.methodLink RJ2 393 yJ2_getChars_ba4f3 ∈ lw_all := tt36_all _ (List.mem_of_getElem? (i := 5) rfl)
theorem qw997 : Cond.static yJ2_getChars_ba4f3 ∈ lw_all := tt36_all _ (List.mem_of_getElem? (i := 6) rfl)
theorem qw998 : Cond.code yJ2_getChars_ba4f3 cJ2_getChars_ba4f3 7 (Option.some Jvm.ClassFile.FieldType.int) ∈ lw_all := tt36_all _ (List.mem_of_getElem? (i := 7) rfl)
theorem qw999 : Cond.fieldLink RJ2 403 "java/lang/Integer" "DigitOnes" "[B" ∈ lw_all := tt36_all _ (List.mem_of_getElem? (i := 8) rfl)
theorem qw1000 : Cond.fieldLink RJ2 407 "java/lang/Integer" "DigitTens" "[B" ∈ lw_all := tt36_all _ (List.mem_of_getElem? (i := 9) rfl)
theorem qw1002 : Cond.methodLink RL 62 yJ4_append_15ec4 ∈ lw_all := tt36_all _ (List.mem_of_getElem? (i := 10) rfl)
theorem qw1003 : Cond.methodLink RL 65 yJ4_append_cf468 ∈ lw_all := tt36_all _ (List.mem_of_getElem? (i := 11) rfl)
theorem qw1004 : Cond.instanceMethod yJ4_append_cf468 ∈ lw_all := tt36_all _ (List.mem_of_getElem? (i := 12) rfl)
theorem qw1005 : Cond.selects RJ4 yJ4_append_cf468 yJ4_append_cf468 ∈ lw_all := tt36_all _ (List.mem_of_getElem? (i := 13) rfl)
theorem qw1006 : Cond.code yJ4_append_cf468 cJ4_append_cf468 2 (Option.some (Jvm.ClassFile.FieldType.object "java/lang/StringBuilder")) ∈ lw_all := tt36_all _ (List.mem_of_getElem? (i := 14) rfl)
theorem qw1007 : Cond.methodLink RJ4 50 yJ5_append_3fe6f ∈ lw_all := tt36_all _ (List.mem_of_getElem? (i := 15) rfl)
theorem qw1008 : Cond.instanceMethod yJ5_append_3fe6f ∈ lw_all := tt36_all _ (List.mem_of_getElem? (i := 16) rfl)
theorem qw1009 : Cond.code yJ5_append_3fe6f cJ5_append_3fe6f 2 (Option.some (Jvm.ClassFile.FieldType.object "java/lang/AbstractStringBuilder")) ∈ lw_all := tt36_all _ (List.mem_of_getElem? (i := 17) rfl)
theorem qw1010 : Cond.methodLink RJ5 191 yJ1_canEncode_fc78d ∈ lw_all := tt36_all _ (List.mem_of_getElem? (i := 18) rfl)
theorem qw1011 : Cond.static yJ1_canEncode_fc78d ∈ lw_all := tt36_all _ (List.mem_of_getElem? (i := 19) rfl)
theorem qw1012 : Cond.code yJ1_canEncode_fc78d cJ1_canEncode_fc78d 1 (Option.some Jvm.ClassFile.FieldType.boolean) ∈ lw_all := tt36_all _ (List.mem_of_getElem? (i := 20) rfl)
theorem qw1013 : Cond.methodLink RJ5 197 yJ2_putCharSB_b72d1 ∈ lw_all := tt36_all _ (List.mem_of_getElem? (i := 21) rfl)
theorem qw1014 : Cond.static yJ2_putCharSB_b72d1 ∈ lw_all := tt36_all _ (List.mem_of_getElem? (i := 22) rfl)
theorem qw1015 : Cond.code yJ2_putCharSB_b72d1 cJ2_putCharSB_b72d1 3 (Option.none : Option Jvm.ClassFile.FieldType) ∈ lw_all := tt36_all _ (List.mem_of_getElem? (i := 23) rfl)
theorem qw1024 : Cond.methodLink RL 84 yJ4_init_da8c8 ∈ lw_all := tt36_all _ (List.mem_of_getElem? (i := 24) rfl)
theorem qw1025 : Cond.instanceMethod yJ4_init_da8c8 ∈ lw_all := tt37_all _ (List.mem_of_getElem? (i := 0) rfl)
theorem qw1026 : Cond.code yJ4_init_da8c8 cJ4_init_da8c8 1 (Option.none : Option Jvm.ClassFile.FieldType) ∈ lw_all := tt37_all _ (List.mem_of_getElem? (i := 1) rfl)
theorem qw1027 : Cond.methodLink RJ4 1 yJ5_init_d00df ∈ lw_all := tt37_all _ (List.mem_of_getElem? (i := 2) rfl)
theorem qw1028 : Cond.instanceMethod yJ5_init_d00df ∈ lw_all := tt37_all _ (List.mem_of_getElem? (i := 3) rfl)
theorem qw1029 : Cond.code yJ5_init_d00df cJ5_init_d00df 2 (Option.none : Option Jvm.ClassFile.FieldType) ∈ lw_all := tt37_all _ (List.mem_of_getElem? (i := 4) rfl)
theorem qw1031 : Cond.methodLink RL 87 yJ4_toString_0e30d ∈ lw_all := tt37_all _ (List.mem_of_getElem? (i := 5) rfl)
theorem qw1032 : Cond.instanceMethod yJ4_toString_0e30d ∈ lw_all := tt37_all _ (List.mem_of_getElem? (i := 6) rfl)
theorem qw1033 : Cond.selects RJ4 yJ4_toString_0e30d yJ4_toString_0e30d ∈ lw_all := tt37_all _ (List.mem_of_getElem? (i := 7) rfl)
theorem qw1034 : Cond.code yJ4_toString_0e30d cJ4_toString_0e30d 1 (Option.some (Jvm.ClassFile.FieldType.object "java/lang/String")) ∈ lw_all := tt37_all _ (List.mem_of_getElem? (i := 8) rfl)
theorem qw1035 : Cond.classLink RJ4 18 RJ0 ∈ lw_all := tt37_all _ (List.mem_of_getElem? (i := 9) rfl)
theorem qw1036 : Cond.instantiable RJ0 4 ∈ lw_all := tt37_all _ (List.mem_of_getElem? (i := 10) rfl)
theorem qw1037 : Cond.methodLink RJ4 137 yJ0_init_81219 ∈ lw_all := tt37_all _ (List.mem_of_getElem? (i := 11) rfl)
theorem qw1038 : Cond.instanceMethod yJ0_init_81219 ∈ lw_all := tt37_all _ (List.mem_of_getElem? (i := 12) rfl)
theorem qw1039 : Cond.code yJ0_init_81219 cJ0_init_81219 2 (Option.none : Option Jvm.ClassFile.FieldType) ∈ lw_all := tt37_all _ (List.mem_of_getElem? (i := 13) rfl)
theorem qw1040 : Cond.methodLink RJ0 489 yJ0_init_db425 ∈ lw_all := tt37_all _ (List.mem_of_getElem? (i := 14) rfl)
theorem qw1041 : Cond.instanceMethod yJ0_init_db425 ∈ lw_all := tt37_all _ (List.mem_of_getElem? (i := 15) rfl)
theorem qw1042 : Cond.code yJ0_init_db425 cJ0_init_db425 5 (Option.none : Option Jvm.ClassFile.FieldType) ∈ lw_all := tt37_all _ (List.mem_of_getElem? (i := 16) rfl)
theorem qw1043 : Cond.methodLink RJ0 1 objectInit ∈ lw_all := tt37_all _ (List.mem_of_getElem? (i := 17) rfl)
theorem qw1044 : Cond.methodLink RJ0 552 yJ5_getValue_6d5f1 ∈ lw_all := tt37_all _ (List.mem_of_getElem? (i := 18) rfl)
theorem qw1045 : Cond.instanceMethod yJ5_getValue_6d5f1 ∈ lw_all := tt37_all _ (List.mem_of_getElem? (i := 19) rfl)
theorem qw1046 : Cond.sameMethod RJ5 RJ5 "getValue" "()[B" ∈ lw_all := tt37_all _ (List.mem_of_getElem? (i := 20) rfl)
theorem qw1047 : Cond.selects RJ4 yJ5_getValue_6d5f1 yJ5_getValue_6d5f1 ∈ lw_all := tt37_all _ (List.mem_of_getElem? (i := 21) rfl)
theorem qw1048 : Cond.code yJ5_getValue_6d5f1 cJ5_getValue_6d5f1 1 (Option.some (Jvm.ClassFile.FieldType.array Jvm.ClassFile.FieldType.byte)) ∈ lw_all := tt37_all _ (List.mem_of_getElem? (i := 22) rfl)
theorem qw1049 : Cond.methodLink RJ0 549 yJ5_length_8abf5 ∈ lw_all := tt37_all _ (List.mem_of_getElem? (i := 23) rfl)
theorem qw1050 : Cond.instanceMethod yJ5_length_8abf5 ∈ lw_all := tt37_all _ (List.mem_of_getElem? (i := 24) rfl)
theorem qw1051 : Cond.sameMethod RJ5 RJ5 "length" "()I" ∈ lw_all := tt38_all _ (List.mem_of_getElem? (i := 0) rfl)
theorem qw1052 : Cond.selects RJ4 yJ5_length_8abf5 yJ4_length_8abf5 ∈ lw_all := tt38_all _ (List.mem_of_getElem? (i := 1) rfl)
theorem qw1053 : Cond.instanceMethod yJ4_length_8abf5 ∈ lw_all := tt38_all _ (List.mem_of_getElem? (i := 2) rfl)
theorem qw1054 : Cond.code yJ4_length_8abf5 cJ4_length_8abf5 1 (Option.some Jvm.ClassFile.FieldType.int) ∈ lw_all := tt38_all _ (List.mem_of_getElem? (i := 3) rfl)
theorem qw1055 : Cond.methodLink RJ4 343 yJ5_length_8abf5 ∈ lw_all := tt38_all _ (List.mem_of_getElem? (i := 4) rfl)
theorem qw1056 : Cond.code yJ5_length_8abf5 cJ5_length_8abf5 1 (Option.some Jvm.ClassFile.FieldType.int) ∈ lw_all := tt38_all _ (List.mem_of_getElem? (i := 5) rfl)
theorem qw1057 : Cond.methodLink RJ0 1047 yJ5_isLatin1_aae02 ∈ lw_all := tt38_all _ (List.mem_of_getElem? (i := 6) rfl)
theorem qw1058 : Cond.methodLink RJ0 54 yJ7_copyOfRange_39247 ∈ lw_all := tt38_all _ (List.mem_of_getElem? (i := 7) rfl)
theorem qw1059 : Cond.static yJ7_copyOfRange_39247 ∈ lw_all := tt38_all _ (List.mem_of_getElem? (i := 8) rfl)
theorem qw1060 : Cond.code yJ7_copyOfRange_39247 cJ7_copyOfRange_39247 3 (Option.some (Jvm.ClassFile.FieldType.array Jvm.ClassFile.FieldType.byte)) ∈ lw_all := tt38_all _ (List.mem_of_getElem? (i := 9) rfl)
theorem qw1061 : Cond.methodLink RJ7 339 yJ7_copyOfRangeByte_39247 ∈ lw_all := tt38_all _ (List.mem_of_getElem? (i := 10) rfl)
theorem qw1062 : Cond.static yJ7_copyOfRangeByte_39247 ∈ lw_all := tt38_all _ (List.mem_of_getElem? (i := 11) rfl)
theorem qw1063 : Cond.code yJ7_copyOfRangeByte_39247 cJ7_copyOfRangeByte_39247 5 (Option.some (Jvm.ClassFile.FieldType.array Jvm.ClassFile.FieldType.byte)) ∈ lw_all := tt38_all _ (List.mem_of_getElem? (i := 12) rfl)
theorem qw1064 : Cond.methodLink RJ7 343 yJ7_checkLength_df160 ∈ lw_all := tt38_all _ (List.mem_of_getElem? (i := 13) rfl)
theorem qw1065 : Cond.static yJ7_checkLength_df160 ∈ lw_all := tt38_all _ (List.mem_of_getElem? (i := 14) rfl)
theorem qw1066 : Cond.code yJ7_checkLength_df160 cJ7_checkLength_df160 2 (Option.none : Option Jvm.ClassFile.FieldType) ∈ lw_all := tt38_all _ (List.mem_of_getElem? (i := 15) rfl)
theorem qw1067 : Cond.methodLink RJ0 1051 yJ2_compress_39247 ∈ lw_all := tt38_all _ (List.mem_of_getElem? (i := 16) rfl)
theorem qw1068 : Cond.static yJ2_compress_39247 ∈ lw_all := tt38_all _ (List.mem_of_getElem? (i := 17) rfl)
theorem qw1069 : Cond.code yJ2_compress_39247 cJ2_compress_39247 6 (Option.some (Jvm.ClassFile.FieldType.array Jvm.ClassFile.FieldType.byte)) ∈ lw_all := tt38_all _ (List.mem_of_getElem? (i := 18) rfl)
theorem qw1070 : Cond.methodLink RJ2 123 yJ2_compress_5af95 ∈ lw_all := tt38_all _ (List.mem_of_getElem? (i := 19) rfl)
theorem qw1071 : Cond.static yJ2_compress_5af95 ∈ lw_all := tt38_all _ (List.mem_of_getElem? (i := 20) rfl)
theorem qw1072 : Cond.code yJ2_compress_5af95 cJ2_compress_5af95 7 (Option.some Jvm.ClassFile.FieldType.int) ∈ lw_all := tt38_all _ (List.mem_of_getElem? (i := 21) rfl)
theorem qw1073 : Cond.methodLink RJ2 126 yJ7_copyOfRange_39247 ∈ lw_all := tt38_all _ (List.mem_of_getElem? (i := 22) rfl)
theorem qw1074 : Cond.methodLink RJ0 47 yJ2_coderFromArrayLen_85cad ∈ lw_all := tt38_all _ (List.mem_of_getElem? (i := 23) rfl)
theorem qw1075 : Cond.static yJ2_coderFromArrayLen_85cad ∈ lw_all := tt38_all _ (List.mem_of_getElem? (i := 24) rfl)
theorem qw1076 : Cond.code yJ2_coderFromArrayLen_85cad cJ2_coderFromArrayLen_85cad 2 (Option.some Jvm.ClassFile.FieldType.byte) ∈ lw_all := tt39_all _ (List.mem_of_getElem? (i := 0) rfl)
theorem qw1077 : Cond.fieldLink RJ0 9 "java/lang/String" "value" "[B" ∈ lw_all := tt39_all _ (List.mem_of_getElem? (i := 1) rfl)
theorem qw1078 : Cond.fieldLink RJ0 15 "java/lang/String" "coder" "B" ∈ lw_all := tt39_all _ (List.mem_of_getElem? (i := 2) rfl)
theorem qw1079 : Cond.laysFinal RJ0 "java/lang/String" "value" "[B" ∈ lw_all := tt39_all _ (List.mem_of_getElem? (i := 3) rfl)
theorem qw1081 : Cond.laysFinal RJ0 "java/lang/String" "coder" "B" ∈ lw_all := tt39_all _ (List.mem_of_getElem? (i := 4) rfl)
theorem qw1083 : Cond.lays RJ0 "java/lang/String" "hash" "I" ∈ lw_all := tt39_all _ (List.mem_of_getElem? (i := 5) rfl)
theorem qw1085 : Cond.lays RJ0 "java/lang/String" "hashIsZero" "Z" ∈ lw_all := tt39_all _ (List.mem_of_getElem? (i := 6) rfl)
theorem qw1087 : Cond.superclass RJ0 "java/lang/Object" ∈ lw_all := tt39_all _ (List.mem_of_getElem? (i := 7) rfl)
theorem qw1088 : Cond.methodLink RL 255 yL_acts ∈ lw_all := tt39_all _ (List.mem_of_getElem? (i := 8) rfl)
theorem qw1089 : Cond.static yL_acts ∈ lw_all := tt39_all _ (List.mem_of_getElem? (i := 9) rfl)
theorem qw1090 : Cond.code yL_acts cL_acts 6 (Option.some Jvm.ClassFile.FieldType.int) ∈ lw_all := tt39_all _ (List.mem_of_getElem? (i := 10) rfl)
theorem qw1091 : Cond.methodLink RL 109 yX11_sail ∈ lw_all := tt39_all _ (List.mem_of_getElem? (i := 11) rfl)
theorem qw1092 : Cond.instanceMethod yX11_sail ∈ lw_all := tt39_all _ (List.mem_of_getElem? (i := 12) rfl)
theorem qw1093 : Cond.selects RX11 yX11_sail yX11_sail ∈ lw_all := tt39_all _ (List.mem_of_getElem? (i := 13) rfl)
theorem qw1094 : Cond.code yX11_sail cX11_sail 3 (Option.some Jvm.ClassFile.FieldType.int) ∈ lw_all := tt39_all _ (List.mem_of_getElem? (i := 14) rfl)
theorem qw1095 : Cond.methodLink RX11 101 yX11_isBoat ∈ lw_all := tt39_all _ (List.mem_of_getElem? (i := 15) rfl)
theorem qw1097 : Cond.instanceMethod yX11_isBoat ∈ lw_all := tt39_all _ (List.mem_of_getElem? (i := 16) rfl)
theorem qw1098 : Cond.code yX11_isBoat cX11_isBoat 2 (Option.some Jvm.ClassFile.FieldType.boolean) ∈ lw_all := tt39_all _ (List.mem_of_getElem? (i := 17) rfl)
theorem qw1099 : Cond.methodLink RX11 105 yX11_isDays ∈ lw_all := tt39_all _ (List.mem_of_getElem? (i := 18) rfl)
theorem qw1100 : Cond.static yX11_isDays ∈ lw_all := tt39_all _ (List.mem_of_getElem? (i := 19) rfl)
theorem qw1101 : Cond.code yX11_isDays cX11_isDays 1 (Option.some Jvm.ClassFile.FieldType.boolean) ∈ lw_all := tt39_all _ (List.mem_of_getElem? (i := 20) rfl)
theorem qw1102 : Cond.methodLink RX11 112 yX2_isOut ∈ lw_all := tt39_all _ (List.mem_of_getElem? (i := 21) rfl)
theorem qw1103 : Cond.methodLink RX11 121 yX10_setOut ∈ lw_all := tt39_all _ (List.mem_of_getElem? (i := 22) rfl)
theorem qw1104 : Cond.instanceMethod yX10_setOut ∈ lw_all := tt39_all _ (List.mem_of_getElem? (i := 23) rfl)
theorem qw1105 : Cond.selects RX10 yX10_setOut yX10_setOut ∈ lw_all := tt39_all _ (List.mem_of_getElem? (i := 24) rfl)
theorem qw1106 : Cond.code yX10_setOut cX10_setOut 5 (Option.some Jvm.ClassFile.FieldType.int) ∈ lw_all := tt40_all _ (List.mem_of_getElem? (i := 0) rfl)
theorem qw1107 : Cond.methodLink RX10 50 yX2_leave ∈ lw_all := tt40_all _ (List.mem_of_getElem? (i := 1) rfl)
theorem qw1108 : Cond.instanceMethod yX2_leave ∈ lw_all := tt40_all _ (List.mem_of_getElem? (i := 2) rfl)
theorem qw1109 : Cond.selects RX2 yX2_leave yX2_leave ∈ lw_all := tt40_all _ (List.mem_of_getElem? (i := 3) rfl)
theorem qw1110 : Cond.code yX2_leave cX2_leave 4 (Option.some Jvm.ClassFile.FieldType.int) ∈ lw_all := tt40_all _ (List.mem_of_getElem? (i := 4) rfl)
theorem qw1112 : Cond.methodLink RX2 62 yX2_sailedOf ∈ lw_all := tt40_all _ (List.mem_of_getElem? (i := 5) rfl)
theorem qw1113 : Cond.instanceMethod yX2_sailedOf ∈ lw_all := tt40_all _ (List.mem_of_getElem? (i := 6) rfl)
theorem qw1114 : Cond.selects RX2 yX2_sailedOf yX2_sailedOf ∈ lw_all := tt40_all _ (List.mem_of_getElem? (i := 7) rfl)
theorem qw1115 : Cond.code yX2_sailedOf cX2_sailedOf 2 (Option.some Jvm.ClassFile.FieldType.int) ∈ lw_all := tt40_all _ (List.mem_of_getElem? (i := 8) rfl)
theorem qw1116 : Cond.methodLink RX2 65 yX2_boatOf ∈ lw_all := tt40_all _ (List.mem_of_getElem? (i := 9) rfl)
theorem qw1117 : Cond.methodLink RX2 67 yX2_aboard ∈ lw_all := tt40_all _ (List.mem_of_getElem? (i := 10) rfl)
theorem qw1118 : Cond.instanceMethod yX2_aboard ∈ lw_all := tt40_all _ (List.mem_of_getElem? (i := 11) rfl)
theorem qw1119 : Cond.selects RX2 yX2_aboard yX2_aboard ∈ lw_all := tt40_all _ (List.mem_of_getElem? (i := 12) rfl)
theorem qw1120 : Cond.code yX2_aboard cX2_aboard 4 (Option.some Jvm.ClassFile.FieldType.int) ∈ lw_all := tt40_all _ (List.mem_of_getElem? (i := 13) rfl)
theorem qw1121 : Cond.methodLink RL 113 yX11_delay ∈ lw_all := tt40_all _ (List.mem_of_getElem? (i := 14) rfl)
theorem qw1122 : Cond.instanceMethod yX11_delay ∈ lw_all := tt40_all _ (List.mem_of_getElem? (i := 15) rfl)
theorem qw1123 : Cond.selects RX11 yX11_delay yX11_delay ∈ lw_all := tt40_all _ (List.mem_of_getElem? (i := 16) rfl)
theorem qw1124 : Cond.code yX11_delay cX11_delay 3 (Option.some Jvm.ClassFile.FieldType.int) ∈ lw_all := tt40_all _ (List.mem_of_getElem? (i := 17) rfl)
theorem qw1125 : Cond.methodLink RX11 125 yX2_moveBack ∈ lw_all := tt40_all _ (List.mem_of_getElem? (i := 18) rfl)
theorem qw1126 : Cond.instanceMethod yX2_moveBack ∈ lw_all := tt40_all _ (List.mem_of_getElem? (i := 19) rfl)
theorem qw1127 : Cond.selects RX2 yX2_moveBack yX2_moveBack ∈ lw_all := tt40_all _ (List.mem_of_getElem? (i := 20) rfl)
theorem qw1128 : Cond.code yX2_moveBack cX2_moveBack 3 (Option.none : Option Jvm.ClassFile.FieldType) ∈ lw_all := tt40_all _ (List.mem_of_getElem? (i := 21) rfl)
theorem qw1129 : Cond.methodLink RX2 59 yX2_backOf ∈ lw_all := tt40_all _ (List.mem_of_getElem? (i := 22) rfl)
theorem qw1130 : Cond.methodLink RX11 129 yX2_backOf ∈ lw_all := tt40_all _ (List.mem_of_getElem? (i := 23) rfl)
theorem qw1131 : Cond.methodLink RL 116 yX11_comeHome ∈ lw_all := tt40_all _ (List.mem_of_getElem? (i := 24) rfl)
theorem qw1132 : Cond.instanceMethod yX11_comeHome ∈ lw_all := tt41_all _ (List.mem_of_getElem? (i := 0) rfl)
theorem qw1133 : Cond.selects RX11 yX11_comeHome yX11_comeHome ∈ lw_all := tt41_all _ (List.mem_of_getElem? (i := 1) rfl)
theorem qw1134 : Cond.code yX11_comeHome cX11_comeHome 2 (Option.some Jvm.ClassFile.FieldType.int) ∈ lw_all := tt41_all _ (List.mem_of_getElem? (i := 2) rfl)
theorem qw1135 : Cond.methodLink RX11 133 yX10_bringHome ∈ lw_all := tt41_all _ (List.mem_of_getElem? (i := 3) rfl)
theorem qw1136 : Cond.instanceMethod yX10_bringHome ∈ lw_all := tt41_all _ (List.mem_of_getElem? (i := 4) rfl)
theorem qw1137 : Cond.selects RX10 yX10_bringHome yX10_bringHome ∈ lw_all := tt41_all _ (List.mem_of_getElem? (i := 5) rfl)
theorem qw1138 : Cond.code yX10_bringHome cX10_bringHome 3 (Option.some Jvm.ClassFile.FieldType.int) ∈ lw_all := tt41_all _ (List.mem_of_getElem? (i := 6) rfl)
theorem qw1139 : Cond.methodLink RX10 66 yX2_arrive ∈ lw_all := tt41_all _ (List.mem_of_getElem? (i := 7) rfl)
theorem qw1140 : Cond.instanceMethod yX2_arrive ∈ lw_all := tt41_all _ (List.mem_of_getElem? (i := 8) rfl)
theorem qw1141 : Cond.selects RX2 yX2_arrive yX2_arrive ∈ lw_all := tt41_all _ (List.mem_of_getElem? (i := 9) rfl)
theorem qw1142 : Cond.code yX2_arrive cX2_arrive 4 (Option.some Jvm.ClassFile.FieldType.int) ∈ lw_all := tt41_all _ (List.mem_of_getElem? (i := 10) rfl)
theorem qw1143 : Cond.methodLink RL 119 yX11_join ∈ lw_all := tt41_all _ (List.mem_of_getElem? (i := 11) rfl)
theorem qw1144 : Cond.instanceMethod yX11_join ∈ lw_all := tt41_all _ (List.mem_of_getElem? (i := 12) rfl)
theorem qw1145 : Cond.selects RX11 yX11_join yX11_join ∈ lw_all := tt41_all _ (List.mem_of_getElem? (i := 13) rfl)
theorem qw1146 : Cond.code yX11_join cX11_join 4 (Option.some Jvm.ClassFile.FieldType.int) ∈ lw_all := tt41_all _ (List.mem_of_getElem? (i := 14) rfl)
theorem qw1147 : Cond.methodLink RX11 145 yX2_assign ∈ lw_all := tt41_all _ (List.mem_of_getElem? (i := 15) rfl)
theorem qw1148 : Cond.instanceMethod yX2_assign ∈ lw_all := tt41_all _ (List.mem_of_getElem? (i := 16) rfl)
theorem qw1149 : Cond.selects RX2 yX2_assign yX2_assign ∈ lw_all := tt41_all _ (List.mem_of_getElem? (i := 17) rfl)
theorem qw1150 : Cond.code yX2_assign cX2_assign 3 (Option.none : Option Jvm.ClassFile.FieldType) ∈ lw_all := tt41_all _ (List.mem_of_getElem? (i := 18) rfl)
theorem qw1151 : Cond.methodLink RL 125 yX11_give ∈ lw_all := tt41_all _ (List.mem_of_getElem? (i := 19) rfl)
theorem qw1152 : Cond.instanceMethod yX11_give ∈ lw_all := tt41_all _ (List.mem_of_getElem? (i := 20) rfl)
theorem qw1153 : Cond.selects RX11 yX11_give yX11_give ∈ lw_all := tt41_all _ (List.mem_of_getElem? (i := 21) rfl)
theorem qw1154 : Cond.code yX11_give cX11_give 4 (Option.some Jvm.ClassFile.FieldType.int) ∈ lw_all := tt41_all _ (List.mem_of_getElem? (i := 22) rfl)
theorem qw1155 : Cond.methodLink RX11 155 yX11_isBasket ∈ lw_all := tt41_all _ (List.mem_of_getElem? (i := 23) rfl)
theorem qw1156 : Cond.methodLink RX11 162 yX9_placeOf ∈ lw_all := tt41_all _ (List.mem_of_getElem? (i := 24) rfl)
theorem qw1157 : Cond.methodLink RX11 167 yX9_handTo ∈ lw_all := tt42_all _ (List.mem_of_getElem? (i := 0) rfl)
theorem qw1158 : Cond.instanceMethod yX9_handTo ∈ lw_all := tt42_all _ (List.mem_of_getElem? (i := 1) rfl)
theorem qw1159 : Cond.selects RX9 yX9_handTo yX9_handTo ∈ lw_all := tt42_all _ (List.mem_of_getElem? (i := 2) rfl)
theorem qw1160 : Cond.code yX9_handTo cX9_handTo 4 (Option.none : Option Jvm.ClassFile.FieldType) ∈ lw_all := tt42_all _ (List.mem_of_getElem? (i := 3) rfl)
theorem qw1161 : Cond.methodLink RL 129 yX11_takeBack ∈ lw_all := tt42_all _ (List.mem_of_getElem? (i := 4) rfl)
theorem qw1162 : Cond.instanceMethod yX11_takeBack ∈ lw_all := tt42_all _ (List.mem_of_getElem? (i := 5) rfl)
theorem qw1163 : Cond.selects RX11 yX11_takeBack yX11_takeBack ∈ lw_all := tt42_all _ (List.mem_of_getElem? (i := 6) rfl)
theorem qw1164 : Cond.code yX11_takeBack cX11_takeBack 4 (Option.some Jvm.ClassFile.FieldType.int) ∈ lw_all := tt42_all _ (List.mem_of_getElem? (i := 7) rfl)
theorem qw1165 : Cond.methodLink RX11 179 yX9_carrierOf ∈ lw_all := tt42_all _ (List.mem_of_getElem? (i := 8) rfl)
theorem qw1166 : Cond.methodLink RX11 182 yX9_handBack ∈ lw_all := tt42_all _ (List.mem_of_getElem? (i := 9) rfl)
theorem qw1167 : Cond.instanceMethod yX9_handBack ∈ lw_all := tt42_all _ (List.mem_of_getElem? (i := 10) rfl)
theorem qw1168 : Cond.selects RX9 yX9_handBack yX9_handBack ∈ lw_all := tt42_all _ (List.mem_of_getElem? (i := 11) rfl)
theorem qw1169 : Cond.code yX9_handBack cX9_handBack 2 (Option.none : Option Jvm.ClassFile.FieldType) ∈ lw_all := tt42_all _ (List.mem_of_getElem? (i := 12) rfl)
theorem qw1170 : Cond.methodLink RL 132 yX11_lay ∈ lw_all := tt42_all _ (List.mem_of_getElem? (i := 13) rfl)
theorem qw1171 : Cond.instanceMethod yX11_lay ∈ lw_all := tt42_all _ (List.mem_of_getElem? (i := 14) rfl)
theorem qw1172 : Cond.selects RX11 yX11_lay yX11_lay ∈ lw_all := tt42_all _ (List.mem_of_getElem? (i := 15) rfl)
theorem qw1173 : Cond.code yX11_lay cX11_lay 5 (Option.some Jvm.ClassFile.FieldType.int) ∈ lw_all := tt42_all _ (List.mem_of_getElem? (i := 16) rfl)
theorem qw1174 : Cond.methodLink RX11 185 yX11_refusalToLay ∈ lw_all := tt42_all _ (List.mem_of_getElem? (i := 17) rfl)
theorem qw1176 : Cond.instanceMethod yX11_refusalToLay ∈ lw_all := tt42_all _ (List.mem_of_getElem? (i := 18) rfl)
theorem qw1177 : Cond.code yX11_refusalToLay cX11_refusalToLay 4 (Option.some Jvm.ClassFile.FieldType.int) ∈ lw_all := tt42_all _ (List.mem_of_getElem? (i := 19) rfl)
theorem qw1178 : Cond.methodLink RX11 384 yX9_isHadBy ∈ lw_all := tt42_all _ (List.mem_of_getElem? (i := 20) rfl)
theorem qw1179 : Cond.instanceMethod yX9_isHadBy ∈ lw_all := tt42_all _ (List.mem_of_getElem? (i := 21) rfl)
theorem qw1180 : Cond.selects RX9 yX9_isHadBy yX9_isHadBy ∈ lw_all := tt42_all _ (List.mem_of_getElem? (i := 22) rfl)
theorem qw1181 : Cond.code yX9_isHadBy cX9_isHadBy 3 (Option.some Jvm.ClassFile.FieldType.boolean) ∈ lw_all := tt42_all _ (List.mem_of_getElem? (i := 23) rfl)
theorem qw1182 : Cond.methodLink RX11 189 yX10_putIntoBasket ∈ lw_all := tt42_all _ (List.mem_of_getElem? (i := 24) rfl)
theorem qw1183 : Cond.instanceMethod yX10_putIntoBasket ∈ lw_all := tt43_all _ (List.mem_of_getElem? (i := 0) rfl)
theorem qw1184 : Cond.selects RX10 yX10_putIntoBasket yX10_putIntoBasket ∈ lw_all := tt43_all _ (List.mem_of_getElem? (i := 1) rfl)
theorem qw1185 : Cond.code yX10_putIntoBasket cX10_putIntoBasket 4 (Option.some Jvm.ClassFile.FieldType.int) ∈ lw_all := tt43_all _ (List.mem_of_getElem? (i := 2) rfl)
theorem qw1186 : Cond.methodLink RX10 106 yX10_reasonFor ∈ lw_all := tt43_all _ (List.mem_of_getElem? (i := 3) rfl)
theorem qw1187 : Cond.instanceMethod yX10_reasonFor ∈ lw_all := tt43_all _ (List.mem_of_getElem? (i := 4) rfl)
theorem qw1188 : Cond.selects RX10 yX10_reasonFor yX10_reasonFor ∈ lw_all := tt43_all _ (List.mem_of_getElem? (i := 5) rfl)
theorem qw1189 : Cond.code yX10_reasonFor cX10_reasonFor 5 (Option.some Jvm.ClassFile.FieldType.int) ∈ lw_all := tt43_all _ (List.mem_of_getElem? (i := 6) rfl)
theorem qw1190 : Cond.methodLink RX10 214 yX9_laidForOthers ∈ lw_all := tt43_all _ (List.mem_of_getElem? (i := 7) rfl)
theorem qw1191 : Cond.methodLink RX10 217 yX9_boundTo ∈ lw_all := tt43_all _ (List.mem_of_getElem? (i := 8) rfl)
theorem qw1192 : Cond.instanceMethod yX9_boundTo ∈ lw_all := tt43_all _ (List.mem_of_getElem? (i := 9) rfl)
theorem qw1193 : Cond.selects RX9 yX9_boundTo yX9_boundTo ∈ lw_all := tt43_all _ (List.mem_of_getElem? (i := 10) rfl)
theorem qw1194 : Cond.code yX9_boundTo cX9_boundTo 2 (Option.some Jvm.ClassFile.FieldType.int) ∈ lw_all := tt43_all _ (List.mem_of_getElem? (i := 11) rfl)
theorem qw1195 : Cond.methodLink RX10 110 yX9_putInto ∈ lw_all := tt43_all _ (List.mem_of_getElem? (i := 12) rfl)
theorem qw1196 : Cond.instanceMethod yX9_putInto ∈ lw_all := tt43_all _ (List.mem_of_getElem? (i := 13) rfl)
theorem qw1197 : Cond.selects RX9 yX9_putInto yX9_putInto ∈ lw_all := tt43_all _ (List.mem_of_getElem? (i := 14) rfl)
theorem qw1198 : Cond.code yX9_putInto cX9_putInto 5 (Option.none : Option Jvm.ClassFile.FieldType) ∈ lw_all := tt43_all _ (List.mem_of_getElem? (i := 15) rfl)
theorem qw1199 : Cond.methodLink RX10 116 yX9_countIn ∈ lw_all := tt43_all _ (List.mem_of_getElem? (i := 16) rfl)
theorem qw1200 : Cond.instanceMethod yX9_countIn ∈ lw_all := tt44_all _ (List.mem_of_getElem? (i := 0) rfl)
theorem qw1201 : Cond.selects RX9 yX9_countIn yX9_countIn ∈ lw_all := tt44_all _ (List.mem_of_getElem? (i := 1) rfl)
theorem qw1202 : Cond.code yX9_countIn cX9_countIn 2 (Option.some Jvm.ClassFile.FieldType.int) ∈ lw_all := tt44_all _ (List.mem_of_getElem? (i := 2) rfl)
theorem qw1203 : Cond.methodLink RX9 56 yX9_maskIn ∈ lw_all := tt44_all _ (List.mem_of_getElem? (i := 3) rfl)
theorem qw1204 : Cond.instanceMethod yX9_maskIn ∈ lw_all := tt44_all _ (List.mem_of_getElem? (i := 4) rfl)
theorem qw1205 : Cond.selects RX9 yX9_maskIn yX9_maskIn ∈ lw_all := tt44_all _ (List.mem_of_getElem? (i := 5) rfl)
theorem qw1206 : Cond.code yX9_maskIn cX9_maskIn 4 (Option.some Jvm.ClassFile.FieldType.int) ∈ lw_all := tt44_all _ (List.mem_of_getElem? (i := 6) rfl)
theorem qw1207 : Cond.methodLink RX9 67 yX9_basketOf ∈ lw_all := tt44_all _ (List.mem_of_getElem? (i := 7) rfl)
theorem qw1208 : Cond.methodLink RX9 59 yJ6_bitCount_0f7a4 ∈ lw_all := tt44_all _ (List.mem_of_getElem? (i := 8) rfl)
theorem qw1209 : Cond.methodLink RL 135 yX11_stick ∈ lw_all := tt44_all _ (List.mem_of_getElem? (i := 9) rfl)
theorem qw1210 : Cond.instanceMethod yX11_stick ∈ lw_all := tt44_all _ (List.mem_of_getElem? (i := 10) rfl)
theorem qw1211 : Cond.selects RX11 yX11_stick yX11_stick ∈ lw_all := tt44_all _ (List.mem_of_getElem? (i := 11) rfl)
theorem qw1212 : Cond.code yX11_stick cX11_stick 3 (Option.some Jvm.ClassFile.FieldType.int) ∈ lw_all := tt44_all _ (List.mem_of_getElem? (i := 12) rfl)
theorem qw1213 : Cond.methodLink RX11 292 yX9_boundTo ∈ lw_all := tt44_all _ (List.mem_of_getElem? (i := 13) rfl)
theorem qw1214 : Cond.methodLink RX11 295 yX9_basketOf ∈ lw_all := tt44_all _ (List.mem_of_getElem? (i := 14) rfl)
theorem qw1215 : Cond.methodLink RX11 298 yX9_dayOf ∈ lw_all := tt44_all _ (List.mem_of_getElem? (i := 15) rfl)
theorem qw1216 : Cond.instanceMethod yX9_dayOf ∈ lw_all := tt44_all _ (List.mem_of_getElem? (i := 16) rfl)
theorem qw1217 : Cond.selects RX9 yX9_dayOf yX9_dayOf ∈ lw_all := tt44_all _ (List.mem_of_getElem? (i := 17) rfl)
theorem qw1218 : Cond.code yX9_dayOf cX9_dayOf 2 (Option.some Jvm.ClassFile.FieldType.int) ∈ lw_all := tt44_all _ (List.mem_of_getElem? (i := 18) rfl)
theorem qw1219 : Cond.methodLink RX11 301 yX9_reasonOf ∈ lw_all := tt44_all _ (List.mem_of_getElem? (i := 19) rfl)
theorem qw1220 : Cond.methodLink RL 138 yX11_contest ∈ lw_all := tt44_all _ (List.mem_of_getElem? (i := 20) rfl)
theorem qw1221 : Cond.instanceMethod yX11_contest ∈ lw_all := tt44_all _ (List.mem_of_getElem? (i := 21) rfl)
theorem qw1222 : Cond.selects RX11 yX11_contest yX11_contest ∈ lw_all := tt44_all _ (List.mem_of_getElem? (i := 22) rfl)
theorem qw1223 : Cond.code yX11_contest cX11_contest 3 (Option.some Jvm.ClassFile.FieldType.int) ∈ lw_all := tt44_all _ (List.mem_of_getElem? (i := 23) rfl)
theorem qw1224 : Cond.methodLink RX11 198 yX10_judge ∈ lw_all := tt44_all _ (List.mem_of_getElem? (i := 24) rfl)
theorem qw1225 : Cond.instanceMethod yX10_judge ∈ lw_all := tt45_all _ (List.mem_of_getElem? (i := 0) rfl)
theorem qw1226 : Cond.selects RX10 yX10_judge yX10_judge ∈ lw_all := tt45_all _ (List.mem_of_getElem? (i := 1) rfl)
theorem qw1227 : Cond.code yX10_judge cX10_judge 5 (Option.some Jvm.ClassFile.FieldType.int) ∈ lw_all := tt45_all _ (List.mem_of_getElem? (i := 2) rfl)
theorem qw1228 : Cond.methodLink RX10 119 yX9_reasonOf ∈ lw_all := tt45_all _ (List.mem_of_getElem? (i := 3) rfl)
theorem qw1229 : Cond.methodLink RX10 122 yX2_addFault ∈ lw_all := tt45_all _ (List.mem_of_getElem? (i := 4) rfl)
theorem qw1230 : Cond.instanceMethod yX2_addFault ∈ lw_all := tt45_all _ (List.mem_of_getElem? (i := 5) rfl)
theorem qw1231 : Cond.selects RX2 yX2_addFault yX2_addFault ∈ lw_all := tt45_all _ (List.mem_of_getElem? (i := 6) rfl)
theorem qw1232 : Cond.code yX2_addFault cX2_addFault 2 (Option.none : Option Jvm.ClassFile.FieldType) ∈ lw_all := tt45_all _ (List.mem_of_getElem? (i := 7) rfl)
theorem qw1233 : Cond.methodLink RX2 56 yX2_faultsOf ∈ lw_all := tt45_all _ (List.mem_of_getElem? (i := 8) rfl)
theorem qw1234 : Cond.methodLink RX10 125 yX2_faultsOf ∈ lw_all := tt45_all _ (List.mem_of_getElem? (i := 9) rfl)
theorem qw1235 : Cond.methodLink RX10 128 yX10_resultNow ∈ lw_all := tt45_all _ (List.mem_of_getElem? (i := 10) rfl)
theorem qw1236 : Cond.methodLink RX10 131 yX10_strike ∈ lw_all := tt45_all _ (List.mem_of_getElem? (i := 11) rfl)
theorem qw1238 : Cond.instanceMethod yX10_strike ∈ lw_all := tt45_all _ (List.mem_of_getElem? (i := 12) rfl)
theorem qw1239 : Cond.code yX10_strike cX10_strike 2 (Option.none : Option Jvm.ClassFile.FieldType) ∈ lw_all := tt45_all _ (List.mem_of_getElem? (i := 13) rfl)
theorem qw1240 : Cond.methodLink RX10 143 yX9_strike ∈ lw_all := tt45_all _ (List.mem_of_getElem? (i := 14) rfl)
theorem qw1241 : Cond.instanceMethod yX9_strike ∈ lw_all := tt45_all _ (List.mem_of_getElem? (i := 15) rfl)
theorem qw1242 : Cond.selects RX9 yX9_strike yX9_strike ∈ lw_all := tt45_all _ (List.mem_of_getElem? (i := 16) rfl)
theorem qw1243 : Cond.code yX9_strike cX9_strike 2 (Option.none : Option Jvm.ClassFile.FieldType) ∈ lw_all := tt45_all _ (List.mem_of_getElem? (i := 17) rfl)
theorem qw1244 : Cond.methodLink RX10 134 yX10_correctResult ∈ lw_all := tt45_all _ (List.mem_of_getElem? (i := 18) rfl)
theorem qw1246 : Cond.instanceMethod yX10_correctResult ∈ lw_all := tt45_all _ (List.mem_of_getElem? (i := 19) rfl)
theorem qw1247 : Cond.code yX10_correctResult cX10_correctResult 3 (Option.none : Option Jvm.ClassFile.FieldType) ∈ lw_all := tt45_all _ (List.mem_of_getElem? (i := 20) rfl)
theorem qw1248 : Cond.methodLink RX10 157 yX9_turnout ∈ lw_all := tt45_all _ (List.mem_of_getElem? (i := 21) rfl)
theorem qw1249 : Cond.methodLink RX10 160 yX5_setPart ∈ lw_all := tt45_all _ (List.mem_of_getElem? (i := 22) rfl)
theorem qw1250 : Cond.instanceMethod yX5_setPart ∈ lw_all := tt45_all _ (List.mem_of_getElem? (i := 23) rfl)
theorem qw1251 : Cond.selects RX5 yX5_setPart yX5_setPart ∈ lw_all := tt45_all _ (List.mem_of_getElem? (i := 24) rfl)
theorem qw1252 : Cond.code yX5_setPart cX5_setPart 4 (Option.none : Option Jvm.ClassFile.FieldType) ∈ lw_all := tt46_all _ (List.mem_of_getElem? (i := 0) rfl)
theorem qw1253 : Cond.methodLink RX5 47 yX5_has ∈ lw_all := tt46_all _ (List.mem_of_getElem? (i := 1) rfl)
theorem qw1254 : Cond.instanceMethod yX5_has ∈ lw_all := tt46_all _ (List.mem_of_getElem? (i := 2) rfl)
theorem qw1255 : Cond.selects RX5 yX5_has yX5_has ∈ lw_all := tt46_all _ (List.mem_of_getElem? (i := 3) rfl)
theorem qw1256 : Cond.code yX5_has cX5_has 2 (Option.some Jvm.ClassFile.FieldType.boolean) ∈ lw_all := tt46_all _ (List.mem_of_getElem? (i := 4) rfl)
theorem qw1257 : Cond.methodLink RX5 43 yX5_oldest ∈ lw_all := tt46_all _ (List.mem_of_getElem? (i := 5) rfl)
theorem qw1258 : Cond.instanceMethod yX5_oldest ∈ lw_all := tt46_all _ (List.mem_of_getElem? (i := 6) rfl)
theorem qw1259 : Cond.selects RX5 yX5_oldest yX5_oldest ∈ lw_all := tt46_all _ (List.mem_of_getElem? (i := 7) rfl)
theorem qw1260 : Cond.code yX5_oldest cX5_oldest 1 (Option.some Jvm.ClassFile.FieldType.int) ∈ lw_all := tt46_all _ (List.mem_of_getElem? (i := 8) rfl)
theorem qw1262 : Cond.methodLink RX10 164 yX10_inLog ∈ lw_all := tt46_all _ (List.mem_of_getElem? (i := 9) rfl)
theorem qw1263 : Cond.static yX10_inLog ∈ lw_all := tt46_all _ (List.mem_of_getElem? (i := 10) rfl)
theorem qw1264 : Cond.code yX10_inLog cX10_inLog 1 (Option.some Jvm.ClassFile.FieldType.int) ∈ lw_all := tt46_all _ (List.mem_of_getElem? (i := 11) rfl)
theorem qw1265 : Cond.methodLink RL 141 yX11_close ∈ lw_all := tt46_all _ (List.mem_of_getElem? (i := 12) rfl)
theorem qw1266 : Cond.instanceMethod yX11_close ∈ lw_all := tt46_all _ (List.mem_of_getElem? (i := 13) rfl)
theorem qw1267 : Cond.selects RX11 yX11_close yX11_close ∈ lw_all := tt46_all _ (List.mem_of_getElem? (i := 14) rfl)
theorem qw1268 : Cond.code yX11_close cX11_close 1 (Option.some Jvm.ClassFile.FieldType.int) ∈ lw_all := tt46_all _ (List.mem_of_getElem? (i := 15) rfl)
theorem qw1269 : Cond.methodLink RX11 201 yX10_endVote ∈ lw_all := tt46_all _ (List.mem_of_getElem? (i := 16) rfl)
theorem qw1270 : Cond.instanceMethod yX10_endVote ∈ lw_all := tt46_all _ (List.mem_of_getElem? (i := 17) rfl)
theorem qw1271 : Cond.selects RX10 yX10_endVote yX10_endVote ∈ lw_all := tt46_all _ (List.mem_of_getElem? (i := 18) rfl)
theorem qw1272 : Cond.code yX10_endVote cX10_endVote 3 (Option.some Jvm.ClassFile.FieldType.int) ∈ lw_all := tt46_all _ (List.mem_of_getElem? (i := 19) rfl)
theorem qw1273 : Cond.methodLink RL 144 yX11_recount ∈ lw_all := tt46_all _ (List.mem_of_getElem? (i := 20) rfl)
theorem qw1274 : Cond.instanceMethod yX11_recount ∈ lw_all := tt46_all _ (List.mem_of_getElem? (i := 21) rfl)
theorem qw1275 : Cond.selects RX11 yX11_recount yX11_recount ∈ lw_all := tt46_all _ (List.mem_of_getElem? (i := 22) rfl)
theorem qw1276 : Cond.code yX11_recount cX11_recount 1 (Option.some Jvm.ClassFile.FieldType.int) ∈ lw_all := tt46_all _ (List.mem_of_getElem? (i := 23) rfl)
theorem qw1277 : Cond.methodLink RX11 207 yX7_numberOf ∈ lw_all := tt46_all _ (List.mem_of_getElem? (i := 24) rfl)
theorem qw1278 : Cond.methodLink RX11 210 yX10_strikeAllWrong ∈ lw_all := tt47_all _ (List.mem_of_getElem? (i := 0) rfl)
theorem qw1279 : Cond.instanceMethod yX10_strikeAllWrong ∈ lw_all := tt47_all _ (List.mem_of_getElem? (i := 1) rfl)
theorem qw1280 : Cond.selects RX10 yX10_strikeAllWrong yX10_strikeAllWrong ∈ lw_all := tt47_all _ (List.mem_of_getElem? (i := 2) rfl)
theorem qw1281 : Cond.code yX10_strikeAllWrong cX10_strikeAllWrong 4 (Option.some Jvm.ClassFile.FieldType.int) ∈ lw_all := tt47_all _ (List.mem_of_getElem? (i := 3) rfl)
theorem qw1282 : Cond.methodLink RX10 137 yX9_isWrong ∈ lw_all := tt47_all _ (List.mem_of_getElem? (i := 4) rfl)
theorem qw1283 : Cond.methodLink RL 147 yX11_pass ∈ lw_all := tt47_all _ (List.mem_of_getElem? (i := 5) rfl)
theorem qw1284 : Cond.instanceMethod yX11_pass ∈ lw_all := tt47_all _ (List.mem_of_getElem? (i := 6) rfl)
theorem qw1285 : Cond.selects RX11 yX11_pass yX11_pass ∈ lw_all := tt47_all _ (List.mem_of_getElem? (i := 7) rfl)
theorem qw1286 : Cond.code yX11_pass cX11_pass 2 (Option.some Jvm.ClassFile.FieldType.int) ∈ lw_all := tt47_all _ (List.mem_of_getElem? (i := 8) rfl)
theorem qw1287 : Cond.methodLink RX11 213 yX10_letDaysPass ∈ lw_all := tt47_all _ (List.mem_of_getElem? (i := 9) rfl)
theorem qw1288 : Cond.instanceMethod yX10_letDaysPass ∈ lw_all := tt47_all _ (List.mem_of_getElem? (i := 10) rfl)
theorem qw1289 : Cond.selects RX10 yX10_letDaysPass yX10_letDaysPass ∈ lw_all := tt47_all _ (List.mem_of_getElem? (i := 11) rfl)
theorem qw1290 : Cond.code yX10_letDaysPass cX10_letDaysPass 4 (Option.some Jvm.ClassFile.FieldType.int) ∈ lw_all := tt47_all _ (List.mem_of_getElem? (i := 12) rfl)
theorem qw1291 : Cond.methodLink RX10 70 yX2_countDayAtSea ∈ lw_all := tt47_all _ (List.mem_of_getElem? (i := 13) rfl)
theorem qw1292 : Cond.instanceMethod yX2_countDayAtSea ∈ lw_all := tt47_all _ (List.mem_of_getElem? (i := 14) rfl)
theorem qw1293 : Cond.selects RX2 yX2_countDayAtSea yX2_countDayAtSea ∈ lw_all := tt47_all _ (List.mem_of_getElem? (i := 15) rfl)
theorem qw1294 : Cond.code yX2_countDayAtSea cX2_countDayAtSea 2 (Option.none : Option Jvm.ClassFile.FieldType) ∈ lw_all := tt47_all _ (List.mem_of_getElem? (i := 16) rfl)
theorem qw1295 : Cond.methodLink RX2 74 yX2_daysAtSeaOf ∈ lw_all := tt47_all _ (List.mem_of_getElem? (i := 17) rfl)
theorem qw1296 : Cond.methodLink RX10 73 yX10_bringHomeTodays ∈ lw_all := tt47_all _ (List.mem_of_getElem? (i := 18) rfl)
theorem qw1298 : Cond.instanceMethod yX10_bringHomeTodays ∈ lw_all := tt47_all _ (List.mem_of_getElem? (i := 19) rfl)
theorem qw1299 : Cond.code yX10_bringHomeTodays cX10_bringHomeTodays 3 (Option.some Jvm.ClassFile.FieldType.int) ∈ lw_all := tt47_all _ (List.mem_of_getElem? (i := 20) rfl)
theorem qw1300 : Cond.methodLink RX10 77 yX2_isOut ∈ lw_all := tt47_all _ (List.mem_of_getElem? (i := 21) rfl)
theorem qw1301 : Cond.methodLink RX10 84 yX10_bringHome ∈ lw_all := tt47_all _ (List.mem_of_getElem? (i := 22) rfl)
theorem qw1302 : Cond.methodLink RL 248 yL_stands ∈ lw_all := tt47_all _ (List.mem_of_getElem? (i := 23) rfl)
theorem qw1303 : Cond.static yL_stands ∈ lw_all := tt47_all _ (List.mem_of_getElem? (i := 24) rfl)
theorem qw1304 : Cond.code yL_stands cL_stands 12 (Option.some Jvm.ClassFile.FieldType.boolean) ∈ lw_all := tt48_all _ (List.mem_of_getElem? (i := 0) rfl)
theorem qw1305 : Cond.methodLink RL 150 yX11_agrees ∈ lw_all := tt48_all _ (List.mem_of_getElem? (i := 1) rfl)
theorem qw1306 : Cond.instanceMethod yX11_agrees ∈ lw_all := tt48_all _ (List.mem_of_getElem? (i := 2) rfl)
theorem qw1307 : Cond.selects RX11 yX11_agrees yX11_agrees ∈ lw_all := tt48_all _ (List.mem_of_getElem? (i := 3) rfl)
theorem qw1308 : Cond.code yX11_agrees cX11_agrees 1 (Option.some Jvm.ClassFile.FieldType.boolean) ∈ lw_all := tt48_all _ (List.mem_of_getElem? (i := 4) rfl)
theorem qw1309 : Cond.methodLink RL 157 yX11_carries ∈ lw_all := tt48_all _ (List.mem_of_getElem? (i := 5) rfl)
theorem qw1310 : Cond.instanceMethod yX11_carries ∈ lw_all := tt48_all _ (List.mem_of_getElem? (i := 6) rfl)
theorem qw1311 : Cond.selects RX11 yX11_carries yX11_carries ∈ lw_all := tt48_all _ (List.mem_of_getElem? (i := 7) rfl)
theorem qw1312 : Cond.code yX11_carries cX11_carries 2 (Option.some Jvm.ClassFile.FieldType.int) ∈ lw_all := tt48_all _ (List.mem_of_getElem? (i := 8) rfl)
theorem qw1313 : Cond.methodLink RL 160 yX11_owners ∈ lw_all := tt48_all _ (List.mem_of_getElem? (i := 9) rfl)
theorem qw1314 : Cond.instanceMethod yX11_owners ∈ lw_all := tt48_all _ (List.mem_of_getElem? (i := 10) rfl)
theorem qw1315 : Cond.selects RX11 yX11_owners yX11_owners ∈ lw_all := tt48_all _ (List.mem_of_getElem? (i := 11) rfl)
theorem qw1316 : Cond.code yX11_owners cX11_owners 2 (Option.some Jvm.ClassFile.FieldType.int) ∈ lw_all := tt48_all _ (List.mem_of_getElem? (i := 12) rfl)
theorem qw1317 : Cond.methodLink RX11 329 yX9_maskIn ∈ lw_all := tt48_all _ (List.mem_of_getElem? (i := 13) rfl)
theorem qw1318 : Cond.methodLink RL 163 yJ6_bitCount_0f7a4 ∈ lw_all := tt48_all _ (List.mem_of_getElem? (i := 14) rfl)
theorem qw1319 : Cond.methodLink RL 168 yX11_boat ∈ lw_all := tt48_all _ (List.mem_of_getElem? (i := 15) rfl)
theorem qw1320 : Cond.instanceMethod yX11_boat ∈ lw_all := tt48_all _ (List.mem_of_getElem? (i := 16) rfl)
theorem qw1321 : Cond.selects RX11 yX11_boat yX11_boat ∈ lw_all := tt48_all _ (List.mem_of_getElem? (i := 17) rfl)
theorem qw1322 : Cond.code yX11_boat cX11_boat 3 (Option.some Jvm.ClassFile.FieldType.int) ∈ lw_all := tt48_all _ (List.mem_of_getElem? (i := 18) rfl)
theorem qw1323 : Cond.methodLink RX11 283 yX2_aboard ∈ lw_all := tt48_all _ (List.mem_of_getElem? (i := 19) rfl)
theorem qw1324 : Cond.methodLink RX11 286 yX2_belongingTo ∈ lw_all := tt48_all _ (List.mem_of_getElem? (i := 20) rfl)
theorem qw1325 : Cond.instanceMethod yX2_belongingTo ∈ lw_all := tt48_all _ (List.mem_of_getElem? (i := 21) rfl)
theorem qw1326 : Cond.selects RX2 yX2_belongingTo yX2_belongingTo ∈ lw_all := tt48_all _ (List.mem_of_getElem? (i := 22) rfl)
theorem qw1327 : Cond.code yX2_belongingTo cX2_belongingTo 4 (Option.some Jvm.ClassFile.FieldType.int) ∈ lw_all := tt48_all _ (List.mem_of_getElem? (i := 23) rfl)
theorem qw1328 : Cond.methodLink RX11 289 yX2_sailedOf ∈ lw_all := tt48_all _ (List.mem_of_getElem? (i := 24) rfl)
theorem qw1329 : Cond.methodLink RL 171 yX11_needIfHome ∈ lw_all := tt49_all _ (List.mem_of_getElem? (i := 0) rfl)
theorem qw1330 : Cond.instanceMethod yX11_needIfHome ∈ lw_all := tt49_all _ (List.mem_of_getElem? (i := 1) rfl)
theorem qw1331 : Cond.selects RX11 yX11_needIfHome yX11_needIfHome ∈ lw_all := tt49_all _ (List.mem_of_getElem? (i := 2) rfl)
theorem qw1332 : Cond.code yX11_needIfHome cX11_needIfHome 2 (Option.some Jvm.ClassFile.FieldType.int) ∈ lw_all := tt49_all _ (List.mem_of_getElem? (i := 3) rfl)
theorem qw1333 : Cond.methodLink RX11 335 yX10_needOf ∈ lw_all := tt49_all _ (List.mem_of_getElem? (i := 4) rfl)
theorem qw1334 : Cond.methodLink RL 174 yX11_needIn ∈ lw_all := tt49_all _ (List.mem_of_getElem? (i := 5) rfl)
theorem qw1335 : Cond.instanceMethod yX11_needIn ∈ lw_all := tt49_all _ (List.mem_of_getElem? (i := 6) rfl)
theorem qw1336 : Cond.selects RX11 yX11_needIn yX11_needIn ∈ lw_all := tt49_all _ (List.mem_of_getElem? (i := 7) rfl)
theorem qw1337 : Cond.code yX11_needIn cX11_needIn 2 (Option.some Jvm.ClassFile.FieldType.int) ∈ lw_all := tt49_all _ (List.mem_of_getElem? (i := 8) rfl)
theorem qw1338 : Cond.methodLink RX11 352 yX10_needBehind ∈ lw_all := tt49_all _ (List.mem_of_getElem? (i := 9) rfl)
theorem qw1339 : Cond.instanceMethod yX10_needBehind ∈ lw_all := tt49_all _ (List.mem_of_getElem? (i := 10) rfl)
theorem qw1340 : Cond.selects RX10 yX10_needBehind yX10_needBehind ∈ lw_all := tt49_all _ (List.mem_of_getElem? (i := 11) rfl)
theorem qw1341 : Cond.code yX10_needBehind cX10_needBehind 3 (Option.some Jvm.ClassFile.FieldType.int) ∈ lw_all := tt49_all _ (List.mem_of_getElem? (i := 12) rfl)
theorem qw1342 : Cond.methodLink RX10 196 yX2_boatsOutOn ∈ lw_all := tt49_all _ (List.mem_of_getElem? (i := 13) rfl)
theorem qw1343 : Cond.instanceMethod yX2_boatsOutOn ∈ lw_all := tt49_all _ (List.mem_of_getElem? (i := 14) rfl)
theorem qw1344 : Cond.selects RX2 yX2_boatsOutOn yX2_boatsOutOn ∈ lw_all := tt49_all _ (List.mem_of_getElem? (i := 15) rfl)
theorem qw1345 : Cond.code yX2_boatsOutOn cX2_boatsOutOn 4 (Option.some Jvm.ClassFile.FieldType.int) ∈ lw_all := tt49_all _ (List.mem_of_getElem? (i := 16) rfl)
theorem qw1346 : Cond.methodLink RL 177 yX11_basket ∈ lw_all := tt49_all _ (List.mem_of_getElem? (i := 17) rfl)
theorem qw1347 : Cond.instanceMethod yX11_basket ∈ lw_all := tt49_all _ (List.mem_of_getElem? (i := 18) rfl)
theorem qw1348 : Cond.selects RX11 yX11_basket yX11_basket ∈ lw_all := tt49_all _ (List.mem_of_getElem? (i := 19) rfl)
theorem qw1349 : Cond.code yX11_basket cX11_basket 2 (Option.some Jvm.ClassFile.FieldType.int) ∈ lw_all := tt49_all _ (List.mem_of_getElem? (i := 20) rfl)
theorem qw1350 : Cond.methodLink RX11 304 yX9_countIn ∈ lw_all := tt49_all _ (List.mem_of_getElem? (i := 21) rfl)
theorem qw1351 : Cond.methodLink RL 180 yX11_share ∈ lw_all := tt49_all _ (List.mem_of_getElem? (i := 22) rfl)
theorem qw1352 : Cond.instanceMethod yX11_share ∈ lw_all := tt49_all _ (List.mem_of_getElem? (i := 23) rfl)
theorem qw1353 : Cond.selects RX11 yX11_share yX11_share ∈ lw_all := tt49_all _ (List.mem_of_getElem? (i := 24) rfl)
theorem qw1354 : Cond.code yX11_share cX11_share 3 (Option.some Jvm.ClassFile.FieldType.float) ∈ lw_all := tt50_all _ (List.mem_of_getElem? (i := 0) rfl)
theorem qw1355 : Cond.constantFloat RX11 364 (3212836864 : UInt32) ∈ lw_all := tt50_all _ (List.mem_of_getElem? (i := 1) rfl)
theorem qw1356 : Cond.methodLink RL 184 yX11_number ∈ lw_all := tt50_all _ (List.mem_of_getElem? (i := 2) rfl)
theorem qw1357 : Cond.instanceMethod yX11_number ∈ lw_all := tt50_all _ (List.mem_of_getElem? (i := 3) rfl)
theorem qw1358 : Cond.selects RX11 yX11_number yX11_number ∈ lw_all := tt50_all _ (List.mem_of_getElem? (i := 4) rfl)
theorem qw1359 : Cond.code yX11_number cX11_number 2 (Option.some Jvm.ClassFile.FieldType.int) ∈ lw_all := tt50_all _ (List.mem_of_getElem? (i := 5) rfl)
theorem qw1360 : Cond.methodLink RL 187 yJ9_max_7cf53 ∈ lw_all := tt50_all _ (List.mem_of_getElem? (i := 6) rfl)
theorem qw1361 : Cond.methodLink RL 192 yX11_wrongOnes ∈ lw_all := tt50_all _ (List.mem_of_getElem? (i := 7) rfl)
theorem qw1362 : Cond.instanceMethod yX11_wrongOnes ∈ lw_all := tt50_all _ (List.mem_of_getElem? (i := 8) rfl)
theorem qw1363 : Cond.selects RX11 yX11_wrongOnes yX11_wrongOnes ∈ lw_all := tt50_all _ (List.mem_of_getElem? (i := 9) rfl)
theorem qw1364 : Cond.code yX11_wrongOnes cX11_wrongOnes 1 (Option.some Jvm.ClassFile.FieldType.int) ∈ lw_all := tt50_all _ (List.mem_of_getElem? (i := 10) rfl)
theorem qw1365 : Cond.methodLink RL 195 yX11_seafaring ∈ lw_all := tt50_all _ (List.mem_of_getElem? (i := 11) rfl)
theorem qw1366 : Cond.instanceMethod yX11_seafaring ∈ lw_all := tt50_all _ (List.mem_of_getElem? (i := 12) rfl)
theorem qw1367 : Cond.selects RX11 yX11_seafaring yX11_seafaring ∈ lw_all := tt50_all _ (List.mem_of_getElem? (i := 13) rfl)
theorem qw1368 : Cond.code yX11_seafaring cX11_seafaring 3 (Option.some Jvm.ClassFile.FieldType.double) ∈ lw_all := tt50_all _ (List.mem_of_getElem? (i := 14) rfl)
theorem qw1369 : Cond.methodLink RX11 365 yX2_daysAtSeaOfAll ∈ lw_all := tt50_all _ (List.mem_of_getElem? (i := 15) rfl)
theorem qw1370 : Cond.instanceMethod yX2_daysAtSeaOfAll ∈ lw_all := tt50_all _ (List.mem_of_getElem? (i := 16) rfl)
theorem qw1371 : Cond.selects RX2 yX2_daysAtSeaOfAll yX2_daysAtSeaOfAll ∈ lw_all := tt50_all _ (List.mem_of_getElem? (i := 17) rfl)
theorem qw1372 : Cond.code yX2_daysAtSeaOfAll cX2_daysAtSeaOfAll 4 (Option.some Jvm.ClassFile.FieldType.long) ∈ lw_all := tt50_all _ (List.mem_of_getElem? (i := 18) rfl)
theorem qw1373 : Cond.methodLink RL 199 yX11_leads ∈ lw_all := tt50_all _ (List.mem_of_getElem? (i := 19) rfl)
theorem qw1374 : Cond.instanceMethod yX11_leads ∈ lw_all := tt50_all _ (List.mem_of_getElem? (i := 20) rfl)
theorem qw1375 : Cond.selects RX11 yX11_leads yX11_leads ∈ lw_all := tt50_all _ (List.mem_of_getElem? (i := 21) rfl)
theorem qw1376 : Cond.code yX11_leads cX11_leads 1 (Option.some Jvm.ClassFile.FieldType.int) ∈ lw_all := tt50_all _ (List.mem_of_getElem? (i := 22) rfl)
theorem qw1377 : Cond.methodLink RL 202 yL_isDue ∈ lw_all := tt50_all _ (List.mem_of_getElem? (i := 23) rfl)
theorem qw1378 : Cond.static yL_isDue ∈ lw_all := tt50_all _ (List.mem_of_getElem? (i := 24) rfl)
theorem qw1379 : Cond.code yL_isDue cL_isDue 10 (Option.some Jvm.ClassFile.FieldType.boolean) ∈ lw_all := tt51_all _ (List.mem_of_getElem? (i := 0) rfl)
theorem qw1380 : Cond.methodLink RL 209 yJ6_lowestOneBit_0f7a4 ∈ lw_all := tt51_all _ (List.mem_of_getElem? (i := 1) rfl)
theorem qw1381 : Cond.static yJ6_lowestOneBit_0f7a4 ∈ lw_all := tt51_all _ (List.mem_of_getElem? (i := 2) rfl)
theorem qw1382 : Cond.code yJ6_lowestOneBit_0f7a4 cJ6_lowestOneBit_0f7a4 1 (Option.some Jvm.ClassFile.FieldType.int) ∈ lw_all := tt51_all _ (List.mem_of_getElem? (i := 3) rfl)
theorem qw1383 : Cond.methodLink RL 206 yX11_truly ∈ lw_all := tt51_all _ (List.mem_of_getElem? (i := 4) rfl)
theorem qw1384 : Cond.instanceMethod yX11_truly ∈ lw_all := tt51_all _ (List.mem_of_getElem? (i := 5) rfl)
theorem qw1385 : Cond.selects RX11 yX11_truly yX11_truly ∈ lw_all := tt51_all _ (List.mem_of_getElem? (i := 6) rfl)
theorem qw1386 : Cond.code yX11_truly cX11_truly 1 (Option.some Jvm.ClassFile.FieldType.int) ∈ lw_all := tt51_all _ (List.mem_of_getElem? (i := 7) rfl)
theorem qw1387 : Cond.methodLink RX11 338 yX10_resultOfRightOnes ∈ lw_all := tt51_all _ (List.mem_of_getElem? (i := 8) rfl)
theorem qw1388 : Cond.instanceMethod yX10_resultOfRightOnes ∈ lw_all := tt51_all _ (List.mem_of_getElem? (i := 9) rfl)
theorem qw1389 : Cond.selects RX10 yX10_resultOfRightOnes yX10_resultOfRightOnes ∈ lw_all := tt51_all _ (List.mem_of_getElem? (i := 10) rfl)
theorem qw1390 : Cond.code yX10_resultOfRightOnes cX10_resultOfRightOnes 2 (Option.some Jvm.ClassFile.FieldType.int) ∈ lw_all := tt51_all _ (List.mem_of_getElem? (i := 11) rfl)
theorem qw1391 : Cond.methodLink RX10 227 yX0_leaveOut ∈ lw_all := tt51_all _ (List.mem_of_getElem? (i := 12) rfl)
theorem qw1392 : Cond.instanceMethod yX0_leaveOut ∈ lw_all := tt51_all _ (List.mem_of_getElem? (i := 13) rfl)
theorem qw1393 : Cond.selects RX0 yX0_leaveOut yX0_leaveOut ∈ lw_all := tt51_all _ (List.mem_of_getElem? (i := 14) rfl)
theorem qw1394 : Cond.code yX0_leaveOut cX0_leaveOut 2 (Option.none : Option Jvm.ClassFile.FieldType) ∈ lw_all := tt51_all _ (List.mem_of_getElem? (i := 15) rfl)
theorem qw1395 : Cond.methodLink RL 271 yL_foretold ∈ lw_all := tt51_all _ (List.mem_of_getElem? (i := 16) rfl)
theorem qw1396 : Cond.static yL_foretold ∈ lw_all := tt51_all _ (List.mem_of_getElem? (i := 17) rfl)
theorem qw1397 : Cond.code yL_foretold cL_foretold 19 (Option.some Jvm.ClassFile.FieldType.boolean) ∈ lw_all := tt51_all _ (List.mem_of_getElem? (i := 18) rfl)
theorem qw1398 : Cond.methodLink RL 224 yL_told ∈ lw_all := tt51_all _ (List.mem_of_getElem? (i := 19) rfl)
theorem qw1399 : Cond.static yL_told ∈ lw_all := tt51_all _ (List.mem_of_getElem? (i := 20) rfl)
theorem qw1400 : Cond.code yL_told cL_told 4 (Option.some (Jvm.ClassFile.FieldType.object "java/lang/String")) ∈ lw_all := tt51_all _ (List.mem_of_getElem? (i := 21) rfl)
theorem qw1401 : Cond.methodLink RL 212 yL_text ∈ lw_all := tt51_all _ (List.mem_of_getElem? (i := 22) rfl)
theorem qw1402 : Cond.static yL_text ∈ lw_all := tt51_all _ (List.mem_of_getElem? (i := 23) rfl)
theorem qw1403 : Cond.code yL_text cL_text 5 (Option.some (Jvm.ClassFile.FieldType.object "java/lang/String")) ∈ lw_all := tt51_all _ (List.mem_of_getElem? (i := 24) rfl)
theorem qw1404 : Cond.methodLink RL 91 yX11_viewLength ∈ lw_all := tt52_all _ (List.mem_of_getElem? (i := 0) rfl)
theorem qw1405 : Cond.instanceMethod yX11_viewLength ∈ lw_all := tt52_all _ (List.mem_of_getElem? (i := 1) rfl)
theorem qw1406 : Cond.selects RX11 yX11_viewLength yX11_viewLength ∈ lw_all := tt52_all _ (List.mem_of_getElem? (i := 2) rfl)
theorem qw1407 : Cond.code yX11_viewLength cX11_viewLength 1 (Option.some Jvm.ClassFile.FieldType.int) ∈ lw_all := tt52_all _ (List.mem_of_getElem? (i := 3) rfl)
theorem qw1408 : Cond.methodLink RX11 369 yX6_writeView ∈ lw_all := tt52_all _ (List.mem_of_getElem? (i := 4) rfl)
theorem qw1409 : Cond.instanceMethod yX6_writeView ∈ lw_all := tt52_all _ (List.mem_of_getElem? (i := 5) rfl)
theorem qw1410 : Cond.selects RX6 yX6_writeView yX6_writeView ∈ lw_all := tt52_all _ (List.mem_of_getElem? (i := 6) rfl)
theorem qw1411 : Cond.code yX6_writeView cX6_writeView 4 (Option.some (Jvm.ClassFile.FieldType.object "StickVotes$Bytes")) ∈ lw_all := tt52_all _ (List.mem_of_getElem? (i := 7) rfl)
theorem qw1412 : Cond.methodLink RX6 20 yX1_cutTo ∈ lw_all := tt52_all _ (List.mem_of_getElem? (i := 8) rfl)
theorem qw1413 : Cond.methodLink RX6 23 yX7_people ∈ lw_all := tt52_all _ (List.mem_of_getElem? (i := 9) rfl)
theorem qw1414 : Cond.methodLink RX6 29 yX7_personName ∈ lw_all := tt52_all _ (List.mem_of_getElem? (i := 10) rfl)
theorem qw1415 : Cond.instanceMethod yX7_personName ∈ lw_all := tt52_all _ (List.mem_of_getElem? (i := 11) rfl)
theorem qw1416 : Cond.selects RX7 yX7_personName yX7_personName ∈ lw_all := tt52_all _ (List.mem_of_getElem? (i := 12) rfl)
theorem qw1417 : Cond.code yX7_personName cX7_personName 2 (Option.some Jvm.ClassFile.FieldType.int) ∈ lw_all := tt52_all _ (List.mem_of_getElem? (i := 13) rfl)
theorem qw1418 : Cond.methodLink RX6 33 yX1_addName ∈ lw_all := tt52_all _ (List.mem_of_getElem? (i := 14) rfl)
theorem qw1419 : Cond.instanceMethod yX1_addName ∈ lw_all := tt52_all _ (List.mem_of_getElem? (i := 15) rfl)
theorem qw1420 : Cond.selects RX1 yX1_addName yX1_addName ∈ lw_all := tt52_all _ (List.mem_of_getElem? (i := 16) rfl)
theorem qw1421 : Cond.code yX1_addName cX1_addName 4 (Option.none : Option Jvm.ClassFile.FieldType) ∈ lw_all := tt52_all _ (List.mem_of_getElem? (i := 17) rfl)
theorem qw1422 : Cond.methodLink RX6 36 yX1_add ∈ lw_all := tt52_all _ (List.mem_of_getElem? (i := 18) rfl)
theorem qw1423 : Cond.methodLink RX6 45 yX6_writeStick ∈ lw_all := tt52_all _ (List.mem_of_getElem? (i := 19) rfl)
theorem qw1425 : Cond.instanceMethod yX6_writeStick ∈ lw_all := tt52_all _ (List.mem_of_getElem? (i := 20) rfl)
theorem qw1426 : Cond.code yX6_writeStick cX6_writeStick 6 (Option.none : Option Jvm.ClassFile.FieldType) ∈ lw_all := tt52_all _ (List.mem_of_getElem? (i := 21) rfl)
theorem qw1427 : Cond.methodLink RX6 65 yX9_carrierOf ∈ lw_all := tt52_all _ (List.mem_of_getElem? (i := 22) rfl)
theorem qw1428 : Cond.methodLink RX6 70 yX9_basketOf ∈ lw_all := tt52_all _ (List.mem_of_getElem? (i := 23) rfl)
theorem qw1429 : Cond.methodLink RX6 73 yX9_placeOf ∈ lw_all := tt52_all _ (List.mem_of_getElem? (i := 24) rfl)
theorem qw1430 : Cond.methodLink RX6 76 yX6_placeWord ∈ lw_all := tt53_all _ (List.mem_of_getElem? (i := 0) rfl)
theorem qw1431 : Cond.static yX6_placeWord ∈ lw_all := tt53_all _ (List.mem_of_getElem? (i := 1) rfl)
theorem qw1432 : Cond.code yX6_placeWord cX6_placeWord 1 (Option.some (Jvm.ClassFile.FieldType.object "java/lang/String")) ∈ lw_all := tt53_all _ (List.mem_of_getElem? (i := 2) rfl)
theorem qw1437 : Cond.methodLink RX6 61 yX1_addText ∈ lw_all := tt53_all _ (List.mem_of_getElem? (i := 3) rfl)
theorem qw1438 : Cond.instanceMethod yX1_addText ∈ lw_all := tt53_all _ (List.mem_of_getElem? (i := 4) rfl)
theorem qw1439 : Cond.selects RX1 yX1_addText yX1_addText ∈ lw_all := tt53_all _ (List.mem_of_getElem? (i := 5) rfl)
theorem qw1440 : Cond.code yX1_addText cX1_addText 3 (Option.none : Option Jvm.ClassFile.FieldType) ∈ lw_all := tt54_all _ (List.mem_of_getElem? (i := 0) rfl)
theorem qw1441 : Cond.methodLink RX1 29 yJ0_length_8abf5 ∈ lw_all := tt54_all _ (List.mem_of_getElem? (i := 1) rfl)
theorem qw1442 : Cond.methodLink RX1 34 yJ0_charAt_5068e ∈ lw_all := tt54_all _ (List.mem_of_getElem? (i := 2) rfl)
theorem qw1443 : Cond.methodLink RX6 80 yX6_writeNumber ∈ lw_all := tt54_all _ (List.mem_of_getElem? (i := 3) rfl)
theorem qw1445 : Cond.instanceMethod yX6_writeNumber ∈ lw_all := tt54_all _ (List.mem_of_getElem? (i := 4) rfl)
theorem qw1446 : Cond.code yX6_writeNumber cX6_writeNumber 2 (Option.none : Option Jvm.ClassFile.FieldType) ∈ lw_all := tt54_all _ (List.mem_of_getElem? (i := 5) rfl)
theorem qw1447 : Cond.methodLink RX6 103 yX1_addNumber ∈ lw_all := tt54_all _ (List.mem_of_getElem? (i := 6) rfl)
theorem qw1448 : Cond.instanceMethod yX1_addNumber ∈ lw_all := tt54_all _ (List.mem_of_getElem? (i := 7) rfl)
theorem qw1449 : Cond.selects RX1 yX1_addNumber yX1_addNumber ∈ lw_all := tt54_all _ (List.mem_of_getElem? (i := 8) rfl)
theorem qw1450 : Cond.code yX1_addNumber cX1_addNumber 7 (Option.none : Option Jvm.ClassFile.FieldType) ∈ lw_all := tt54_all _ (List.mem_of_getElem? (i := 9) rfl)
theorem qw1451 : Cond.constantLong RX1 40 (10 : Int64) ∈ lw_all := tt54_all _ (List.mem_of_getElem? (i := 10) rfl)
theorem qw1452 : Cond.constantLong RX1 42 (48 : Int64) ∈ lw_all := tt54_all _ (List.mem_of_getElem? (i := 11) rfl)
theorem qw1453 : Cond.methodLink RX6 53 yX2_isAtSea ∈ lw_all := tt54_all _ (List.mem_of_getElem? (i := 12) rfl)
theorem qw1455 : Cond.methodLink RL 94 yX11_storyLength ∈ lw_all := tt54_all _ (List.mem_of_getElem? (i := 13) rfl)
theorem qw1456 : Cond.instanceMethod yX11_storyLength ∈ lw_all := tt54_all _ (List.mem_of_getElem? (i := 14) rfl)
theorem qw1457 : Cond.selects RX11 yX11_storyLength yX11_storyLength ∈ lw_all := tt54_all _ (List.mem_of_getElem? (i := 15) rfl)
theorem qw1458 : Cond.code yX11_storyLength cX11_storyLength 1 (Option.some Jvm.ClassFile.FieldType.int) ∈ lw_all := tt54_all _ (List.mem_of_getElem? (i := 16) rfl)
theorem qw1459 : Cond.methodLink RX11 376 yX6_writeStory ∈ lw_all := tt54_all _ (List.mem_of_getElem? (i := 17) rfl)
theorem qw1460 : Cond.instanceMethod yX6_writeStory ∈ lw_all := tt54_all _ (List.mem_of_getElem? (i := 18) rfl)
theorem qw1461 : Cond.selects RX6 yX6_writeStory yX6_writeStory ∈ lw_all := tt54_all _ (List.mem_of_getElem? (i := 19) rfl)
theorem qw1462 : Cond.code yX6_writeStory cX6_writeStory 4 (Option.some (Jvm.ClassFile.FieldType.object "StickVotes$Bytes")) ∈ lw_all := tt54_all _ (List.mem_of_getElem? (i := 20) rfl)
theorem qw1463 : Cond.methodLink RX6 91 yX5_size ∈ lw_all := tt54_all _ (List.mem_of_getElem? (i := 21) rfl)
theorem qw1464 : Cond.methodLink RX6 96 yX5_oldest ∈ lw_all := tt54_all _ (List.mem_of_getElem? (i := 22) rfl)
theorem qw1465 : Cond.methodLink RX6 99 yX5_part ∈ lw_all := tt54_all _ (List.mem_of_getElem? (i := 23) rfl)
theorem qw1466 : Cond.instanceMethod yX5_part ∈ lw_all := tt54_all _ (List.mem_of_getElem? (i := 24) rfl)
theorem qw1467 : Cond.selects RX5 yX5_part yX5_part ∈ lw_all := tt55_all _ (List.mem_of_getElem? (i := 0) rfl)
theorem qw1468 : Cond.code yX5_part cX5_part 3 (Option.some Jvm.ClassFile.FieldType.int) ∈ lw_all := tt55_all _ (List.mem_of_getElem? (i := 1) rfl)
theorem qw1470 : Cond.methodLink RX6 106 yX6_kindWord ∈ lw_all := tt55_all _ (List.mem_of_getElem? (i := 2) rfl)
theorem qw1471 : Cond.static yX6_kindWord ∈ lw_all := tt55_all _ (List.mem_of_getElem? (i := 3) rfl)
theorem qw1472 : Cond.code yX6_kindWord cX6_kindWord 1 (Option.some (Jvm.ClassFile.FieldType.object "java/lang/String")) ∈ lw_all := tt55_all _ (List.mem_of_getElem? (i := 4) rfl)
theorem qw1479 : Cond.methodLink RL 97 yX11_setupLength ∈ lw_all := tt55_all _ (List.mem_of_getElem? (i := 5) rfl)
theorem qw1480 : Cond.instanceMethod yX11_setupLength ∈ lw_all := tt55_all _ (List.mem_of_getElem? (i := 6) rfl)
theorem qw1481 : Cond.selects RX11 yX11_setupLength yX11_setupLength ∈ lw_all := tt55_all _ (List.mem_of_getElem? (i := 7) rfl)
theorem qw1482 : Cond.code yX11_setupLength cX11_setupLength 1 (Option.some Jvm.ClassFile.FieldType.int) ∈ lw_all := tt55_all _ (List.mem_of_getElem? (i := 8) rfl)
theorem qw1483 : Cond.methodLink RX11 380 yX6_writeSetup ∈ lw_all := tt55_all _ (List.mem_of_getElem? (i := 9) rfl)
theorem qw1484 : Cond.instanceMethod yX6_writeSetup ∈ lw_all := tt55_all _ (List.mem_of_getElem? (i := 10) rfl)
theorem qw1485 : Cond.selects RX6 yX6_writeSetup yX6_writeSetup ∈ lw_all := tt55_all _ (List.mem_of_getElem? (i := 11) rfl)
theorem qw1486 : Cond.code yX6_writeSetup cX6_writeSetup 4 (Option.some (Jvm.ClassFile.FieldType.object "StickVotes$Bytes")) ∈ lw_all := tt55_all _ (List.mem_of_getElem? (i := 12) rfl)
theorem qw1487 : Cond.methodLink RX6 121 yX6_writeNumbers ∈ lw_all := tt55_all _ (List.mem_of_getElem? (i := 13) rfl)
theorem qw1489 : Cond.instanceMethod yX6_writeNumbers ∈ lw_all := tt55_all _ (List.mem_of_getElem? (i := 14) rfl)
theorem qw1490 : Cond.code yX6_writeNumbers cX6_writeNumbers 3 (Option.none : Option Jvm.ClassFile.FieldType) ∈ lw_all := tt55_all _ (List.mem_of_getElem? (i := 15) rfl)
theorem qw1492 : Cond.methodLink RX6 139 yX7_numberOf ∈ lw_all := tt55_all _ (List.mem_of_getElem? (i := 16) rfl)
theorem qw1499 : Cond.methodLink RX6 125 yX7_boats ∈ lw_all := tt55_all _ (List.mem_of_getElem? (i := 17) rfl)
theorem qw1501 : Cond.methodLink RX6 130 yX7_boatName ∈ lw_all := tt55_all _ (List.mem_of_getElem? (i := 18) rfl)
theorem qw1502 : Cond.instanceMethod yX7_boatName ∈ lw_all := tt55_all _ (List.mem_of_getElem? (i := 19) rfl)
theorem qw1503 : Cond.selects RX7 yX7_boatName yX7_boatName ∈ lw_all := tt55_all _ (List.mem_of_getElem? (i := 20) rfl)
theorem qw1504 : Cond.code yX7_boatName cX7_boatName 2 (Option.some Jvm.ClassFile.FieldType.int) ∈ lw_all := tt55_all _ (List.mem_of_getElem? (i := 21) rfl)
theorem qw1505 : Cond.methodLink RX6 133 yX6_writePerson ∈ lw_all := tt55_all _ (List.mem_of_getElem? (i := 22) rfl)
theorem qw1507 : Cond.instanceMethod yX6_writePerson ∈ lw_all := tt55_all _ (List.mem_of_getElem? (i := 23) rfl)
theorem qw1508 : Cond.code yX6_writePerson cX6_writePerson 5 (Option.none : Option Jvm.ClassFile.FieldType) ∈ lw_all := tt55_all _ (List.mem_of_getElem? (i := 24) rfl)
theorem qw1509 : Cond.methodLink RX6 154 yX2_boatOf ∈ lw_all := tt56_all _ (List.mem_of_getElem? (i := 0) rfl)
theorem qw1512 : Cond.methodLink RL 100 yX11_viewByte ∈ lw_all := tt56_all _ (List.mem_of_getElem? (i := 1) rfl)
theorem qw1513 : Cond.instanceMethod yX11_viewByte ∈ lw_all := tt56_all _ (List.mem_of_getElem? (i := 2) rfl)
theorem qw1514 : Cond.selects RX11 yX11_viewByte yX11_viewByte ∈ lw_all := tt56_all _ (List.mem_of_getElem? (i := 3) rfl)
theorem qw1515 : Cond.code yX11_viewByte cX11_viewByte 2 (Option.some Jvm.ClassFile.FieldType.int) ∈ lw_all := tt56_all _ (List.mem_of_getElem? (i := 4) rfl)
theorem qw1516 : Cond.methodLink RX11 373 yX1_at ∈ lw_all := tt56_all _ (List.mem_of_getElem? (i := 5) rfl)
theorem qw1517 : Cond.methodLink RL 103 yX11_storyByte ∈ lw_all := tt56_all _ (List.mem_of_getElem? (i := 6) rfl)
theorem qw1518 : Cond.instanceMethod yX11_storyByte ∈ lw_all := tt56_all _ (List.mem_of_getElem? (i := 7) rfl)
theorem qw1519 : Cond.selects RX11 yX11_storyByte yX11_storyByte ∈ lw_all := tt56_all _ (List.mem_of_getElem? (i := 8) rfl)
theorem qw1520 : Cond.code yX11_storyByte cX11_storyByte 2 (Option.some Jvm.ClassFile.FieldType.int) ∈ lw_all := tt56_all _ (List.mem_of_getElem? (i := 9) rfl)
theorem qw1521 : Cond.methodLink RL 106 yX11_setupByte ∈ lw_all := tt56_all _ (List.mem_of_getElem? (i := 10) rfl)
theorem qw1522 : Cond.instanceMethod yX11_setupByte ∈ lw_all := tt56_all _ (List.mem_of_getElem? (i := 11) rfl)
theorem qw1523 : Cond.selects RX11 yX11_setupByte yX11_setupByte ∈ lw_all := tt56_all _ (List.mem_of_getElem? (i := 12) rfl)
theorem qw1524 : Cond.code yX11_setupByte cX11_setupByte 2 (Option.some Jvm.ClassFile.FieldType.int) ∈ lw_all := tt56_all _ (List.mem_of_getElem? (i := 13) rfl)
theorem qw1526 : Cond.methodLink RL 218 yJ9_min_7cf53 ∈ lw_all := tt56_all _ (List.mem_of_getElem? (i := 14) rfl)
theorem qw1527 : Cond.methodLink RL 221 yX11_past ∈ lw_all := tt56_all _ (List.mem_of_getElem? (i := 15) rfl)
theorem qw1528 : Cond.instanceMethod yX11_past ∈ lw_all := tt56_all _ (List.mem_of_getElem? (i := 16) rfl)
theorem qw1529 : Cond.selects RX11 yX11_past yX11_past ∈ lw_all := tt56_all _ (List.mem_of_getElem? (i := 17) rfl)
theorem qw1530 : Cond.code yX11_past cX11_past 3 (Option.some Jvm.ClassFile.FieldType.int) ∈ lw_all := tt56_all _ (List.mem_of_getElem? (i := 18) rfl)
theorem qw1531 : Cond.methodLink RX11 314 yX5_part ∈ lw_all := tt56_all _ (List.mem_of_getElem? (i := 19) rfl)
theorem qw1532 : Cond.methodLink RL 228 yX11_why ∈ lw_all := tt56_all _ (List.mem_of_getElem? (i := 20) rfl)
theorem qw1533 : Cond.instanceMethod yX11_why ∈ lw_all := tt56_all _ (List.mem_of_getElem? (i := 21) rfl)
theorem qw1534 : Cond.selects RX11 yX11_why yX11_why ∈ lw_all := tt56_all _ (List.mem_of_getElem? (i := 22) rfl)
theorem qw1535 : Cond.code yX11_why cX11_why 5 (Option.some Jvm.ClassFile.FieldType.int) ∈ lw_all := tt56_all _ (List.mem_of_getElem? (i := 23) rfl)
theorem qw1536 : Cond.methodLink RX11 332 yX10_reasonFor ∈ lw_all := tt56_all _ (List.mem_of_getElem? (i := 24) rfl)
theorem qw1537 : Cond.methodLink RL 231 yX11_undo ∈ lw_all := tt57_all _ (List.mem_of_getElem? (i := 0) rfl)
theorem qw1538 : Cond.instanceMethod yX11_undo ∈ lw_all := tt57_all _ (List.mem_of_getElem? (i := 1) rfl)
theorem qw1539 : Cond.selects RX11 yX11_undo yX11_undo ∈ lw_all := tt57_all _ (List.mem_of_getElem? (i := 2) rfl)
theorem qw1540 : Cond.code yX11_undo cX11_undo 1 (Option.some Jvm.ClassFile.FieldType.int) ∈ lw_all := tt57_all _ (List.mem_of_getElem? (i := 3) rfl)
theorem qw1541 : Cond.methodLink RX11 225 yX3_bringBack ∈ lw_all := tt57_all _ (List.mem_of_getElem? (i := 4) rfl)
theorem qw1542 : Cond.instanceMethod yX3_bringBack ∈ lw_all := tt57_all _ (List.mem_of_getElem? (i := 5) rfl)
theorem qw1543 : Cond.selects RX3 yX3_bringBack yX3_bringBack ∈ lw_all := tt57_all _ (List.mem_of_getElem? (i := 6) rfl)
theorem qw1544 : Cond.code yX3_bringBack cX3_bringBack 3 (Option.some Jvm.ClassFile.FieldType.boolean) ∈ lw_all := tt57_all _ (List.mem_of_getElem? (i := 7) rfl)
theorem qw1545 : Cond.methodLink RX11 229 yX3_steps ∈ lw_all := tt57_all _ (List.mem_of_getElem? (i := 8) rfl)
theorem qw1546 : Cond.instanceMethod yX3_steps ∈ lw_all := tt57_all _ (List.mem_of_getElem? (i := 9) rfl)
theorem qw1547 : Cond.selects RX3 yX3_steps yX3_steps ∈ lw_all := tt57_all _ (List.mem_of_getElem? (i := 10) rfl)
theorem qw1548 : Cond.code yX3_steps cX3_steps 1 (Option.some Jvm.ClassFile.FieldType.int) ∈ lw_all := tt57_all _ (List.mem_of_getElem? (i := 11) rfl)
theorem qw1549 : Cond.methodLink RL 234 yX11_lacks ∈ lw_all := tt57_all _ (List.mem_of_getElem? (i := 12) rfl)
theorem qw1550 : Cond.instanceMethod yX11_lacks ∈ lw_all := tt57_all _ (List.mem_of_getElem? (i := 13) rfl)
theorem qw1551 : Cond.selects RX11 yX11_lacks yX11_lacks ∈ lw_all := tt57_all _ (List.mem_of_getElem? (i := 14) rfl)
theorem qw1552 : Cond.code yX11_lacks cX11_lacks 1 (Option.some Jvm.ClassFile.FieldType.int) ∈ lw_all := tt57_all _ (List.mem_of_getElem? (i := 15) rfl)
theorem qw1553 : Cond.methodLink RX11 347 yJ9_max_7cf53 ∈ lw_all := tt57_all _ (List.mem_of_getElem? (i := 16) rfl)
theorem qw1554 : Cond.methodLink RL 237 yX11_canWin ∈ lw_all := tt57_all _ (List.mem_of_getElem? (i := 17) rfl)
theorem qw1555 : Cond.instanceMethod yX11_canWin ∈ lw_all := tt57_all _ (List.mem_of_getElem? (i := 18) rfl)
theorem qw1556 : Cond.selects RX11 yX11_canWin yX11_canWin ∈ lw_all := tt57_all _ (List.mem_of_getElem? (i := 19) rfl)
theorem qw1557 : Cond.code yX11_canWin cX11_canWin 2 (Option.some Jvm.ClassFile.FieldType.boolean) ∈ lw_all := tt57_all _ (List.mem_of_getElem? (i := 20) rfl)
theorem qw1558 : Cond.methodLink RX11 341 yX10_resultWithAllInto ∈ lw_all := tt57_all _ (List.mem_of_getElem? (i := 21) rfl)
theorem qw1559 : Cond.instanceMethod yX10_resultWithAllInto ∈ lw_all := tt57_all _ (List.mem_of_getElem? (i := 22) rfl)
theorem qw1560 : Cond.selects RX10 yX10_resultWithAllInto yX10_resultWithAllInto ∈ lw_all := tt57_all _ (List.mem_of_getElem? (i := 23) rfl)
theorem qw1561 : Cond.code yX10_resultWithAllInto cX10_resultWithAllInto 3 (Option.some Jvm.ClassFile.FieldType.int) ∈ lw_all := tt57_all _ (List.mem_of_getElem? (i := 24) rfl)
theorem qw1562 : Cond.methodLink RX10 230 yX10_canBeLaid ∈ lw_all := tt58_all _ (List.mem_of_getElem? (i := 0) rfl)
theorem qw1564 : Cond.instanceMethod yX10_canBeLaid ∈ lw_all := tt58_all _ (List.mem_of_getElem? (i := 1) rfl)
theorem qw1565 : Cond.code yX10_canBeLaid cX10_canBeLaid 3 (Option.some Jvm.ClassFile.FieldType.boolean) ∈ lw_all := tt58_all _ (List.mem_of_getElem? (i := 2) rfl)
theorem qw1566 : Cond.methodLink RX10 237 yX9_placeOf ∈ lw_all := tt58_all _ (List.mem_of_getElem? (i := 3) rfl)
theorem qw1567 : Cond.methodLink RX10 240 yX9_carrierOf ∈ lw_all := tt58_all _ (List.mem_of_getElem? (i := 4) rfl)
theorem qw1568 : Cond.methodLink RX10 233 yX0_put ∈ lw_all := tt58_all _ (List.mem_of_getElem? (i := 5) rfl)
theorem qw1569 : Cond.instanceMethod yX0_put ∈ lw_all := tt58_all _ (List.mem_of_getElem? (i := 6) rfl)
theorem qw1570 : Cond.selects RX0 yX0_put yX0_put ∈ lw_all := tt58_all _ (List.mem_of_getElem? (i := 7) rfl)
theorem qw1571 : Cond.code yX0_put cX0_put 3 (Option.none : Option Jvm.ClassFile.FieldType) ∈ lw_all := tt58_all _ (List.mem_of_getElem? (i := 8) rfl)
theorem qw1572 : Cond.methodLink RL 241 yX11_bestDay ∈ lw_all := tt58_all _ (List.mem_of_getElem? (i := 9) rfl)
theorem qw1573 : Cond.instanceMethod yX11_bestDay ∈ lw_all := tt58_all _ (List.mem_of_getElem? (i := 10) rfl)
theorem qw1574 : Cond.selects RX11 yX11_bestDay yX11_bestDay ∈ lw_all := tt58_all _ (List.mem_of_getElem? (i := 11) rfl)
theorem qw1575 : Cond.code yX11_bestDay cX11_bestDay 2 (Option.some Jvm.ClassFile.FieldType.int) ∈ lw_all := tt58_all _ (List.mem_of_getElem? (i := 12) rfl)
theorem qw1576 : Cond.methodLink RX11 355 yX10_bestDayUpTo ∈ lw_all := tt58_all _ (List.mem_of_getElem? (i := 13) rfl)
theorem qw1577 : Cond.instanceMethod yX10_bestDayUpTo ∈ lw_all := tt58_all _ (List.mem_of_getElem? (i := 14) rfl)
theorem qw1578 : Cond.selects RX10 yX10_bestDayUpTo yX10_bestDayUpTo ∈ lw_all := tt58_all _ (List.mem_of_getElem? (i := 15) rfl)
theorem qw1579 : Cond.code yX10_bestDayUpTo cX10_bestDayUpTo 6 (Option.some Jvm.ClassFile.FieldType.int) ∈ lw_all := tt58_all _ (List.mem_of_getElem? (i := 16) rfl)
theorem qw1580 : Cond.methodLink RX10 205 yX10_surplusBehind ∈ lw_all := tt58_all _ (List.mem_of_getElem? (i := 17) rfl)
theorem qw1582 : Cond.instanceMethod yX10_surplusBehind ∈ lw_all := tt58_all _ (List.mem_of_getElem? (i := 18) rfl)
theorem qw1583 : Cond.code yX10_surplusBehind cX10_surplusBehind 3 (Option.some Jvm.ClassFile.FieldType.int) ∈ lw_all := tt58_all _ (List.mem_of_getElem? (i := 19) rfl)
theorem qw1584 : Cond.methodLink RX10 208 yX2_peopleAtSeaOn ∈ lw_all := tt58_all _ (List.mem_of_getElem? (i := 20) rfl)
theorem qw1585 : Cond.instanceMethod yX2_peopleAtSeaOn ∈ lw_all := tt58_all _ (List.mem_of_getElem? (i := 21) rfl)
theorem qw1586 : Cond.selects RX2 yX2_peopleAtSeaOn yX2_peopleAtSeaOn ∈ lw_all := tt58_all _ (List.mem_of_getElem? (i := 22) rfl)
theorem qw1587 : Cond.code yX2_peopleAtSeaOn cX2_peopleAtSeaOn 4 (Option.some Jvm.ClassFile.FieldType.int) ∈ lw_all := tt58_all _ (List.mem_of_getElem? (i := 23) rfl)
theorem qw1588 : Cond.methodLink RX10 211 yX10_needBehind ∈ lw_all := tt58_all _ (List.mem_of_getElem? (i := 24) rfl)
theorem qw1589 : Cond.methodLink RL 244 yJ0_equals_9ea2d ∈ lw_all := tt59_all _ (List.mem_of_getElem? (i := 0) rfl)
theorem qw1590 : Cond.instanceMethod yJ0_equals_9ea2d ∈ lw_all := tt59_all _ (List.mem_of_getElem? (i := 1) rfl)
theorem qw1591 : Cond.selects RJ0 yJ0_equals_9ea2d yJ0_equals_9ea2d ∈ lw_all := tt59_all _ (List.mem_of_getElem? (i := 2) rfl)
theorem qw1592 : Cond.code yJ0_equals_9ea2d cJ0_equals_9ea2d 3 (Option.some Jvm.ClassFile.FieldType.boolean) ∈ lw_all := tt59_all _ (List.mem_of_getElem? (i := 3) rfl)
theorem qw1593 : Cond.classLink RJ0 10 RJ0 ∈ lw_all := tt59_all _ (List.mem_of_getElem? (i := 4) rfl)
theorem qw1594 : Cond.methodLink RJ0 541 yJ1_equals_b5fdf ∈ lw_all := tt59_all _ (List.mem_of_getElem? (i := 5) rfl)
theorem qw1595 : Cond.static yJ1_equals_b5fdf ∈ lw_all := tt59_all _ (List.mem_of_getElem? (i := 6) rfl)
theorem qw1596 : Cond.code yJ1_equals_b5fdf cJ1_equals_b5fdf 3 (Option.some Jvm.ClassFile.FieldType.boolean) ∈ lw_all := tt59_all _ (List.mem_of_getElem? (i := 7) rfl)
theorem qw1597 : Cond.methodLink RL 275 yL_undone ∈ lw_all := tt59_all _ (List.mem_of_getElem? (i := 8) rfl)
theorem qw1598 : Cond.static yL_undone ∈ lw_all := tt59_all _ (List.mem_of_getElem? (i := 9) rfl)
theorem qw1599 : Cond.code yL_undone cL_undone 7 (Option.some Jvm.ClassFile.FieldType.boolean) ∈ lw_all := tt59_all _ (List.mem_of_getElem? (i := 10) rfl)
theorem qw1600 : Cond.methodLink RL 252 yX11_keep ∈ lw_all := tt59_all _ (List.mem_of_getElem? (i := 11) rfl)
theorem qw1601 : Cond.instanceMethod yX11_keep ∈ lw_all := tt59_all _ (List.mem_of_getElem? (i := 12) rfl)
theorem qw1602 : Cond.selects RX11 yX11_keep yX11_keep ∈ lw_all := tt59_all _ (List.mem_of_getElem? (i := 13) rfl)
theorem qw1603 : Cond.code yX11_keep cX11_keep 2 (Option.some Jvm.ClassFile.FieldType.int) ∈ lw_all := tt59_all _ (List.mem_of_getElem? (i := 14) rfl)
theorem qw1604 : Cond.methodLink RX11 216 yX11_isSlot ∈ lw_all := tt59_all _ (List.mem_of_getElem? (i := 15) rfl)
theorem qw1606 : Cond.instanceMethod yX11_isSlot ∈ lw_all := tt59_all _ (List.mem_of_getElem? (i := 16) rfl)
theorem qw1607 : Cond.code yX11_isSlot cX11_isSlot 2 (Option.some Jvm.ClassFile.FieldType.boolean) ∈ lw_all := tt59_all _ (List.mem_of_getElem? (i := 17) rfl)
theorem qw1608 : Cond.methodLink RX11 219 yX8_copyFrom ∈ lw_all := tt59_all _ (List.mem_of_getElem? (i := 18) rfl)
theorem qw1609 : Cond.methodLink RL 259 yX11_restore ∈ lw_all := tt59_all _ (List.mem_of_getElem? (i := 19) rfl)
theorem qw1610 : Cond.instanceMethod yX11_restore ∈ lw_all := tt59_all _ (List.mem_of_getElem? (i := 20) rfl)
theorem qw1611 : Cond.selects RX11 yX11_restore yX11_restore ∈ lw_all := tt59_all _ (List.mem_of_getElem? (i := 21) rfl)
theorem qw1612 : Cond.code yX11_restore cX11_restore 2 (Option.some Jvm.ClassFile.FieldType.int) ∈ lw_all := tt59_all _ (List.mem_of_getElem? (i := 22) rfl)
theorem qw1613 : Cond.sameMethod RJ5 RJ5 "appendNull" "()Ljava/lang/AbstractStringBuilder;" ∈ lw_all := tt59_all _ (List.mem_of_getElem? (i := 23) rfl)
theorem qw1614 : Cond.sameMethod RJ5 RJ5 "ensureCapacityInternal" "(I)V" ∈ lw_all := tt59_all _ (List.mem_of_getElem? (i := 24) rfl)
theorem qw1615 : Cond.sameMethod RJ5 RJ5 "newCapacity" "(I)I" ∈ lw_all := tt60_all _ (List.mem_of_getElem? (i := 0) rfl)
theorem qw1616 : Cond.sameMethod RJ5 RJ5 "putStringAt" "(ILjava/lang/String;)V" ∈ lw_all := tt60_all _ (List.mem_of_getElem? (i := 1) rfl)
theorem qw1617 : Cond.sameMethod RJ5 RJ5 "inflateIfNeededFor" "(Ljava/lang/String;)V" ∈ lw_all := tt60_all _ (List.mem_of_getElem? (i := 2) rfl)
theorem qw1618 : Cond.sameMethod RJ5 RJ5 "inflate" "()V" ∈ lw_all := tt60_all _ (List.mem_of_getElem? (i := 3) rfl)
theorem qw1619 : Cond.sameMethod RJ5 RJ5 "append" "(I)Ljava/lang/AbstractStringBuilder;" ∈ lw_all := tt60_all _ (List.mem_of_getElem? (i := 4) rfl)
theorem qw1620 : Cond.sameMethod RJ5 RJ5 "append" "(C)Ljava/lang/AbstractStringBuilder;" ∈ lw_all := tt60_all _ (List.mem_of_getElem? (i := 5) rfl)
theorem qb0 : Cond.selects RJ4 yJ5_ensureCapacityInternal_d00df yJ5_ensureCapacityInternal_d00df ∈ lw_all := tb0_all _ (List.mem_of_getElem? (i := 0) rfl)
theorem qb1 : Cond.selects RJ4 yJ5_newCapacity_0f7a4 yJ5_newCapacity_0f7a4 ∈ lw_all := tb0_all _ (List.mem_of_getElem? (i := 1) rfl)
theorem qb2 : Cond.selects RJ4 yJ5_putStringAt_47b60 yJ5_putStringAt_47b60 ∈ lw_all := tb0_all _ (List.mem_of_getElem? (i := 2) rfl)
theorem qb3 : Cond.selects RJ4 yJ5_inflateIfNeededFor_a7421 yJ5_inflateIfNeededFor_a7421 ∈ lw_all := tb0_all _ (List.mem_of_getElem? (i := 3) rfl)
theorem qs0 : Cond.selects RX10 yX10_latestVote yX10_latestVote ∈ lw_all := ts0_all _ (List.mem_of_getElem? (i := 0) rfl)
theorem qs1 : Cond.selects RX5 yX5_placeOf yX5_placeOf ∈ lw_all := ts0_all _ (List.mem_of_getElem? (i := 1) rfl)
theorem qs2 : Cond.selects RX11 yX11_isPerson yX11_isPerson ∈ lw_all := ts0_all _ (List.mem_of_getElem? (i := 2) rfl)
theorem qs3 : Cond.selects RX4 yX4_advance yX4_advance ∈ lw_all := ts0_all _ (List.mem_of_getElem? (i := 3) rfl)
theorem qs4 : Cond.selects RX4 yX4_readNumbers yX4_readNumbers ∈ lw_all := ts0_all _ (List.mem_of_getElem? (i := 4) rfl)
theorem qs5 : Cond.selects RX4 yX4_skipKeyword yX4_skipKeyword ∈ lw_all := ts0_all _ (List.mem_of_getElem? (i := 5) rfl)
theorem qs6 : Cond.selects RX4 yX4_isKeyword yX4_isKeyword ∈ lw_all := ts0_all _ (List.mem_of_getElem? (i := 6) rfl)
theorem qs7 : Cond.selects RX4 yX4_reads yX4_reads ∈ lw_all := ts0_all _ (List.mem_of_getElem? (i := 7) rfl)
theorem qs8 : Cond.selects RX4 yX4_readNumber yX4_readNumber ∈ lw_all := ts0_all _ (List.mem_of_getElem? (i := 8) rfl)
theorem qs9 : Cond.selects RX4 yX4_digits yX4_digits ∈ lw_all := ts0_all _ (List.mem_of_getElem? (i := 9) rfl)
theorem qs10 : Cond.selects RX4 yX4_readShares yX4_readShares ∈ lw_all := ts0_all _ (List.mem_of_getElem? (i := 10) rfl)
theorem qs11 : Cond.selects RX4 yX4_skipSemicolon yX4_skipSemicolon ∈ lw_all := ts0_all _ (List.mem_of_getElem? (i := 11) rfl)
theorem qs12 : Cond.selects RX4 yX4_readBoats yX4_readBoats ∈ lw_all := ts0_all _ (List.mem_of_getElem? (i := 12) rfl)
theorem qs13 : Cond.selects RX4 yX4_isName yX4_isName ∈ lw_all := ts0_all _ (List.mem_of_getElem? (i := 13) rfl)
theorem qs14 : Cond.selects RX4 yX4_isAnyKeyword yX4_isAnyKeyword ∈ lw_all := ts0_all _ (List.mem_of_getElem? (i := 14) rfl)
theorem qs15 : Cond.selects RX4 yX4_letters yX4_letters ∈ lw_all := ts0_all _ (List.mem_of_getElem? (i := 15) rfl)
theorem qs16 : Cond.selects RX4 yX4_readPeople yX4_readPeople ∈ lw_all := ts0_all _ (List.mem_of_getElem? (i := 16) rfl)
theorem qs17 : Cond.selects RX4 yX4_readPerson yX4_readPerson ∈ lw_all := ts0_all _ (List.mem_of_getElem? (i := 17) rfl)
theorem qs18 : Cond.selects RX9 yX9_countAt yX9_countAt ∈ lw_all := ts0_all _ (List.mem_of_getElem? (i := 18) rfl)
theorem qs19 : Cond.selects RX10 yX10_resultFor yX10_resultFor ∈ lw_all := ts0_all _ (List.mem_of_getElem? (i := 19) rfl)
theorem qs20 : Cond.selects RX0 yX0_countAll yX0_countAll ∈ lw_all := ts0_all _ (List.mem_of_getElem? (i := 20) rfl)
theorem qs21 : Cond.selects RX11 yX11_isBoat yX11_isBoat ∈ lw_all := ts0_all _ (List.mem_of_getElem? (i := 21) rfl)
theorem qs22 : Cond.selects RX11 yX11_refusalToLay yX11_refusalToLay ∈ lw_all := ts0_all _ (List.mem_of_getElem? (i := 22) rfl)
theorem qs23 : Cond.selects RX10 yX10_strike yX10_strike ∈ lw_all := ts0_all _ (List.mem_of_getElem? (i := 23) rfl)
theorem qs24 : Cond.selects RX10 yX10_correctResult yX10_correctResult ∈ lw_all := ts0_all _ (List.mem_of_getElem? (i := 24) rfl)
theorem qs25 : Cond.selects RX10 yX10_bringHomeTodays yX10_bringHomeTodays ∈ lw_all := ts1_all _ (List.mem_of_getElem? (i := 0) rfl)
theorem qs26 : Cond.selects RX6 yX6_writeStick yX6_writeStick ∈ lw_all := ts1_all _ (List.mem_of_getElem? (i := 1) rfl)
theorem qs27 : Cond.selects RX6 yX6_writeNumber yX6_writeNumber ∈ lw_all := ts1_all _ (List.mem_of_getElem? (i := 2) rfl)
theorem qs28 : Cond.selects RX6 yX6_writeNumbers yX6_writeNumbers ∈ lw_all := ts1_all _ (List.mem_of_getElem? (i := 3) rfl)
theorem qs29 : Cond.selects RX6 yX6_writePerson yX6_writePerson ∈ lw_all := ts1_all _ (List.mem_of_getElem? (i := 4) rfl)
theorem qs30 : Cond.selects RX10 yX10_canBeLaid yX10_canBeLaid ∈ lw_all := ts1_all _ (List.mem_of_getElem? (i := 5) rfl)
theorem qs31 : Cond.selects RX10 yX10_surplusBehind yX10_surplusBehind ∈ lw_all := ts1_all _ (List.mem_of_getElem? (i := 6) rfl)
theorem qs32 : Cond.selects RX11 yX11_isSlot yX11_isSlot ∈ lw_all := ts1_all _ (List.mem_of_getElem? (i := 7) rfl)
theorem tables_1_1_tbl : ∀ w ∈ tables_1_1, w ∈ lw_tbl := fun w h => List.mem_append_right _ (List.mem_append_right _ (List.mem_append_left _ h))
theorem tables_1_2_tbl : ∀ w ∈ tables_1_2, w ∈ lw_tbl := fun w h => List.mem_append_right _ (List.mem_append_right _ (List.mem_append_right _ (List.mem_append_left _ h)))
theorem tables_1_3_tbl : ∀ w ∈ tables_1_3, w ∈ lw_tbl := fun w h => List.mem_append_right _ (List.mem_append_right _ (List.mem_append_right _ (List.mem_append_right _ (List.mem_append_left _ h))))
theorem tables_1_4_tbl : ∀ w ∈ tables_1_4, w ∈ lw_tbl := fun w h => List.mem_append_right _ (List.mem_append_right _ (List.mem_append_right _ (List.mem_append_right _ (List.mem_append_right _ (List.mem_append_left _ h)))))
theorem tables_1_5_tbl : ∀ w ∈ tables_1_5, w ∈ lw_tbl := fun w h => List.mem_append_right _ (List.mem_append_right _ (List.mem_append_right _ (List.mem_append_right _ (List.mem_append_right _ (List.mem_append_right _ (List.mem_append_left _ h))))))
theorem tables_1_6_tbl : ∀ w ∈ tables_1_6, w ∈ lw_tbl := fun w h => List.mem_append_right _ (List.mem_append_right _ (List.mem_append_right _ (List.mem_append_right _ (List.mem_append_right _ (List.mem_append_right _ (List.mem_append_right _ (List.mem_append_left _ h)))))))
theorem tables_1_7_tbl : ∀ w ∈ tables_1_7, w ∈ lw_tbl := fun w h => List.mem_append_right _ (List.mem_append_right _ (List.mem_append_right _ (List.mem_append_right _ (List.mem_append_right _ (List.mem_append_right _ (List.mem_append_right _ (List.mem_append_right _ (h))))))))
theorem lw_all_tbl : ∀ w ∈ lw_all, w ∈ lw_tbl := List.forall_mem_append.mpr ⟨List.forall_mem_append.mpr ⟨List.forall_mem_append.mpr ⟨List.forall_mem_append.mpr ⟨List.forall_mem_append.mpr ⟨List.forall_mem_append.mpr ⟨fun w h => tables_1_1_tbl w (tt0_in w h), fun w h => tables_1_1_tbl w (tt1_in w h)⟩, List.forall_mem_append.mpr ⟨fun w h => tables_1_1_tbl w (tt2_in w h), fun w h => tables_1_1_tbl w (tt3_in w h)⟩⟩, List.forall_mem_append.mpr ⟨List.forall_mem_append.mpr ⟨fun w h => tables_1_1_tbl w (tt4_in w h), fun w h => tables_1_1_tbl w (tt5_in w h)⟩, List.forall_mem_append.mpr ⟨fun w h => tables_1_1_tbl w (tt6_in w h), fun w h => tables_1_1_tbl w (tt7_in w h)⟩⟩⟩, List.forall_mem_append.mpr ⟨List.forall_mem_append.mpr ⟨List.forall_mem_append.mpr ⟨fun w h => tables_1_2_tbl w (tt8_in w h), fun w h => tables_1_2_tbl w (tt9_in w h)⟩, List.forall_mem_append.mpr ⟨fun w h => tables_1_2_tbl w (tt10_in w h), fun w h => tables_1_2_tbl w (tt11_in w h)⟩⟩, List.forall_mem_append.mpr ⟨List.forall_mem_append.mpr ⟨fun w h => tables_1_2_tbl w (tt12_in w h), fun w h => tables_1_2_tbl w (tt13_in w h)⟩, List.forall_mem_append.mpr ⟨fun w h => tables_1_2_tbl w (tt14_in w h), fun w h => tables_1_2_tbl w (tt15_in w h)⟩⟩⟩⟩, List.forall_mem_append.mpr ⟨List.forall_mem_append.mpr ⟨List.forall_mem_append.mpr ⟨List.forall_mem_append.mpr ⟨fun w h => tables_1_2_tbl w (tt16_in w h), fun w h => tables_1_3_tbl w (tt17_in w h)⟩, List.forall_mem_append.mpr ⟨fun w h => tables_1_3_tbl w (tt18_in w h), fun w h => tables_1_3_tbl w (tt19_in w h)⟩⟩, List.forall_mem_append.mpr ⟨List.forall_mem_append.mpr ⟨fun w h => tables_1_3_tbl w (tt20_in w h), fun w h => tables_1_3_tbl w (tt21_in w h)⟩, List.forall_mem_append.mpr ⟨fun w h => tables_1_3_tbl w (tt22_in w h), fun w h => tables_1_3_tbl w (tt23_in w h)⟩⟩⟩, List.forall_mem_append.mpr ⟨List.forall_mem_append.mpr ⟨List.forall_mem_append.mpr ⟨fun w h => tables_1_3_tbl w (tt24_in w h), fun w h => tables_1_3_tbl w (tt25_in w h)⟩, List.forall_mem_append.mpr ⟨fun w h => tables_1_4_tbl w (tt26_in w h), fun w h => tables_1_4_tbl w (tt27_in w h)⟩⟩, List.forall_mem_append.mpr ⟨List.forall_mem_append.mpr ⟨fun w h => tables_1_4_tbl w (tt28_in w h), fun w h => tables_1_4_tbl w (tt29_in w h)⟩, List.forall_mem_append.mpr ⟨fun w h => tables_1_4_tbl w (tt30_in w h), fun w h => tables_1_4_tbl w (tt31_in w h)⟩⟩⟩⟩⟩, List.forall_mem_append.mpr ⟨List.forall_mem_append.mpr ⟨List.forall_mem_append.mpr ⟨List.forall_mem_append.mpr ⟨List.forall_mem_append.mpr ⟨fun w h => tables_1_4_tbl w (tt32_in w h), fun w h => tables_1_4_tbl w (tt33_in w h)⟩, List.forall_mem_append.mpr ⟨fun w h => tables_1_4_tbl w (tt34_in w h), fun w h => tables_1_5_tbl w (tt35_in w h)⟩⟩, List.forall_mem_append.mpr ⟨List.forall_mem_append.mpr ⟨fun w h => tables_1_5_tbl w (tt36_in w h), fun w h => tables_1_5_tbl w (tt37_in w h)⟩, List.forall_mem_append.mpr ⟨fun w h => tables_1_5_tbl w (tt38_in w h), fun w h => tables_1_5_tbl w (tt39_in w h)⟩⟩⟩, List.forall_mem_append.mpr ⟨List.forall_mem_append.mpr ⟨List.forall_mem_append.mpr ⟨fun w h => tables_1_5_tbl w (tt40_in w h), fun w h => tables_1_5_tbl w (tt41_in w h)⟩, List.forall_mem_append.mpr ⟨fun w h => tables_1_5_tbl w (tt42_in w h), fun w h => tables_1_5_tbl w (tt43_in w h)⟩⟩, List.forall_mem_append.mpr ⟨List.forall_mem_append.mpr ⟨fun w h => tables_1_6_tbl w (tt44_in w h), fun w h => tables_1_6_tbl w (tt45_in w h)⟩, List.forall_mem_append.mpr ⟨fun w h => tables_1_6_tbl w (tt46_in w h), fun w h => tables_1_6_tbl w (tt47_in w h)⟩⟩⟩⟩, List.forall_mem_append.mpr ⟨List.forall_mem_append.mpr ⟨List.forall_mem_append.mpr ⟨List.forall_mem_append.mpr ⟨fun w h => tables_1_6_tbl w (tt48_in w h), fun w h => tables_1_6_tbl w (tt49_in w h)⟩, List.forall_mem_append.mpr ⟨fun w h => tables_1_6_tbl w (tt50_in w h), fun w h => tables_1_6_tbl w (tt51_in w h)⟩⟩, List.forall_mem_append.mpr ⟨List.forall_mem_append.mpr ⟨fun w h => tables_1_6_tbl w (tt52_in w h), fun w h => tables_1_6_tbl w (tt53_in w h)⟩, List.forall_mem_append.mpr ⟨fun w h => tables_1_7_tbl w (tt54_in w h), fun w h => tables_1_7_tbl w (tt55_in w h)⟩⟩⟩, List.forall_mem_append.mpr ⟨List.forall_mem_append.mpr ⟨List.forall_mem_append.mpr ⟨fun w h => tables_1_7_tbl w (tt56_in w h), fun w h => tables_1_7_tbl w (tt57_in w h)⟩, List.forall_mem_append.mpr ⟨fun w h => tables_1_7_tbl w (tt58_in w h), fun w h => tables_1_7_tbl w (tt59_in w h)⟩⟩, List.forall_mem_append.mpr ⟨List.forall_mem_append.mpr ⟨fun w h => tables_1_7_tbl w (tt60_in w h), fun w h => List.mem_append_right _ (List.mem_append_left _ (ts0_in w h))⟩, List.forall_mem_append.mpr ⟨fun w h => List.mem_append_right _ (List.mem_append_left _ (ts1_in w h)), fun w h => List.mem_append_left _ (tb0_in w h)⟩⟩⟩⟩⟩⟩
theorem lw_good : ∀ w ∈ lw_all, goodWord w = true := List.forall_mem_append.mpr ⟨List.forall_mem_append.mpr ⟨List.forall_mem_append.mpr ⟨List.forall_mem_append.mpr ⟨List.forall_mem_append.mpr ⟨List.forall_mem_append.mpr ⟨(List.all_eq_true.mp (by rfl : tt0.all goodWord = true)), (List.all_eq_true.mp (by rfl : tt1.all goodWord = true))⟩, List.forall_mem_append.mpr ⟨(List.all_eq_true.mp (by rfl : tt2.all goodWord = true)), (List.all_eq_true.mp (by rfl : tt3.all goodWord = true))⟩⟩, List.forall_mem_append.mpr ⟨List.forall_mem_append.mpr ⟨(List.all_eq_true.mp (by rfl : tt4.all goodWord = true)), (List.all_eq_true.mp (by rfl : tt5.all goodWord = true))⟩, List.forall_mem_append.mpr ⟨(List.all_eq_true.mp (by rfl : tt6.all goodWord = true)), (List.all_eq_true.mp (by rfl : tt7.all goodWord = true))⟩⟩⟩, List.forall_mem_append.mpr ⟨List.forall_mem_append.mpr ⟨List.forall_mem_append.mpr ⟨(List.all_eq_true.mp (by rfl : tt8.all goodWord = true)), (List.all_eq_true.mp (by rfl : tt9.all goodWord = true))⟩, List.forall_mem_append.mpr ⟨(List.all_eq_true.mp (by rfl : tt10.all goodWord = true)), (List.all_eq_true.mp (by rfl : tt11.all goodWord = true))⟩⟩, List.forall_mem_append.mpr ⟨List.forall_mem_append.mpr ⟨(List.all_eq_true.mp (by rfl : tt12.all goodWord = true)), (List.all_eq_true.mp (by rfl : tt13.all goodWord = true))⟩, List.forall_mem_append.mpr ⟨(List.all_eq_true.mp (by rfl : tt14.all goodWord = true)), (List.all_eq_true.mp (by rfl : tt15.all goodWord = true))⟩⟩⟩⟩, List.forall_mem_append.mpr ⟨List.forall_mem_append.mpr ⟨List.forall_mem_append.mpr ⟨List.forall_mem_append.mpr ⟨(List.all_eq_true.mp (by rfl : tt16.all goodWord = true)), (List.all_eq_true.mp (by rfl : tt17.all goodWord = true))⟩, List.forall_mem_append.mpr ⟨(List.all_eq_true.mp (by rfl : tt18.all goodWord = true)), (List.all_eq_true.mp (by rfl : tt19.all goodWord = true))⟩⟩, List.forall_mem_append.mpr ⟨List.forall_mem_append.mpr ⟨(List.all_eq_true.mp (by rfl : tt20.all goodWord = true)), (List.all_eq_true.mp (by rfl : tt21.all goodWord = true))⟩, List.forall_mem_append.mpr ⟨(List.all_eq_true.mp (by rfl : tt22.all goodWord = true)), (List.all_eq_true.mp (by rfl : tt23.all goodWord = true))⟩⟩⟩, List.forall_mem_append.mpr ⟨List.forall_mem_append.mpr ⟨List.forall_mem_append.mpr ⟨(List.all_eq_true.mp (by rfl : tt24.all goodWord = true)), (List.all_eq_true.mp (by rfl : tt25.all goodWord = true))⟩, List.forall_mem_append.mpr ⟨(List.all_eq_true.mp (by rfl : tt26.all goodWord = true)), (List.all_eq_true.mp (by rfl : tt27.all goodWord = true))⟩⟩, List.forall_mem_append.mpr ⟨List.forall_mem_append.mpr ⟨(List.all_eq_true.mp (by rfl : tt28.all goodWord = true)), (List.all_eq_true.mp (by rfl : tt29.all goodWord = true))⟩, List.forall_mem_append.mpr ⟨(List.all_eq_true.mp (by rfl : tt30.all goodWord = true)), (List.all_eq_true.mp (by rfl : tt31.all goodWord = true))⟩⟩⟩⟩⟩, List.forall_mem_append.mpr ⟨List.forall_mem_append.mpr ⟨List.forall_mem_append.mpr ⟨List.forall_mem_append.mpr ⟨List.forall_mem_append.mpr ⟨(List.all_eq_true.mp (by rfl : tt32.all goodWord = true)), (List.all_eq_true.mp (by rfl : tt33.all goodWord = true))⟩, List.forall_mem_append.mpr ⟨(List.all_eq_true.mp (by rfl : tt34.all goodWord = true)), (List.all_eq_true.mp (by rfl : tt35.all goodWord = true))⟩⟩, List.forall_mem_append.mpr ⟨List.forall_mem_append.mpr ⟨(List.all_eq_true.mp (by rfl : tt36.all goodWord = true)), (List.all_eq_true.mp (by rfl : tt37.all goodWord = true))⟩, List.forall_mem_append.mpr ⟨(List.all_eq_true.mp (by rfl : tt38.all goodWord = true)), (List.all_eq_true.mp (by rfl : tt39.all goodWord = true))⟩⟩⟩, List.forall_mem_append.mpr ⟨List.forall_mem_append.mpr ⟨List.forall_mem_append.mpr ⟨(List.all_eq_true.mp (by rfl : tt40.all goodWord = true)), (List.all_eq_true.mp (by rfl : tt41.all goodWord = true))⟩, List.forall_mem_append.mpr ⟨(List.all_eq_true.mp (by rfl : tt42.all goodWord = true)), (List.all_eq_true.mp (by rfl : tt43.all goodWord = true))⟩⟩, List.forall_mem_append.mpr ⟨List.forall_mem_append.mpr ⟨(List.all_eq_true.mp (by rfl : tt44.all goodWord = true)), (List.all_eq_true.mp (by rfl : tt45.all goodWord = true))⟩, List.forall_mem_append.mpr ⟨(List.all_eq_true.mp (by rfl : tt46.all goodWord = true)), (List.all_eq_true.mp (by rfl : tt47.all goodWord = true))⟩⟩⟩⟩, List.forall_mem_append.mpr ⟨List.forall_mem_append.mpr ⟨List.forall_mem_append.mpr ⟨List.forall_mem_append.mpr ⟨(List.all_eq_true.mp (by rfl : tt48.all goodWord = true)), (List.all_eq_true.mp (by rfl : tt49.all goodWord = true))⟩, List.forall_mem_append.mpr ⟨(List.all_eq_true.mp (by rfl : tt50.all goodWord = true)), (List.all_eq_true.mp (by rfl : tt51.all goodWord = true))⟩⟩, List.forall_mem_append.mpr ⟨List.forall_mem_append.mpr ⟨(List.all_eq_true.mp (by rfl : tt52.all goodWord = true)), (List.all_eq_true.mp (by rfl : tt53.all goodWord = true))⟩, List.forall_mem_append.mpr ⟨(List.all_eq_true.mp (by rfl : tt54.all goodWord = true)), (List.all_eq_true.mp (by rfl : tt55.all goodWord = true))⟩⟩⟩, List.forall_mem_append.mpr ⟨List.forall_mem_append.mpr ⟨List.forall_mem_append.mpr ⟨(List.all_eq_true.mp (by rfl : tt56.all goodWord = true)), (List.all_eq_true.mp (by rfl : tt57.all goodWord = true))⟩, List.forall_mem_append.mpr ⟨(List.all_eq_true.mp (by rfl : tt58.all goodWord = true)), (List.all_eq_true.mp (by rfl : tt59.all goodWord = true))⟩⟩, List.forall_mem_append.mpr ⟨List.forall_mem_append.mpr ⟨(List.all_eq_true.mp (by rfl : tt60.all goodWord = true)), (List.all_eq_true.mp (by rfl : ts0.all goodWord = true))⟩, List.forall_mem_append.mpr ⟨(List.all_eq_true.mp (by rfl : ts1.all goodWord = true)), (List.all_eq_true.mp (by rfl : tb0.all goodWord = true))⟩⟩⟩⟩⟩⟩
theorem inX0 : ∀ w ∈ u_ws RX0 TX0 2, w ∈ lw_all := by
  intro w hw
  obtain ⟨k, hk, rfl⟩ := List.mem_map.mp hw
  have hk := List.mem_range.mp hk
  match k, hk with
  | 0, _ => exact qw247
  | 1, _ => exact qw249
  | k + 2, hk => exact absurd hk (by omega)
theorem inX1 : ∀ w ∈ u_ws RX1 TX1 2, w ∈ lw_all := by
  intro w hw
  obtain ⟨k, hk, rfl⟩ := List.mem_map.mp hw
  have hk := List.mem_range.mp hk
  match k, hk with
  | 0, _ => exact qw49
  | 1, _ => exact qw51
  | k + 2, hk => exact absurd hk (by omega)
theorem inX2 : ∀ w ∈ u_ws RX2 TX2 6, w ∈ lw_all := by
  intro w hw
  obtain ⟨k, hk, rfl⟩ := List.mem_map.mp hw
  have hk := List.mem_range.mp hk
  match k, hk with
  | 0, _ => exact qw125
  | 1, _ => exact qw127
  | 2, _ => exact qw129
  | 3, _ => exact qw131
  | 4, _ => exact qw133
  | 5, _ => exact qw135
  | k + 6, hk => exact absurd hk (by omega)
theorem inX3 : ∀ w ∈ u_ws RX3 TX3 3, w ∈ lw_all := by
  intro w hw
  obtain ⟨k, hk, rfl⟩ := List.mem_map.mp hw
  have hk := List.mem_range.mp hk
  match k, hk with
  | 0, _ => exact qw276
  | 1, _ => exact qw278
  | 2, _ => exact qw280
  | k + 3, hk => exact absurd hk (by omega)
theorem inX4 : ∀ w ∈ u_ws RX4 TX4 5, w ∈ lw_all := by
  intro w hw
  obtain ⟨k, hk, rfl⟩ := List.mem_map.mp hw
  have hk := List.mem_range.mp hk
  match k, hk with
  | 0, _ => exact qw88
  | 1, _ => exact qw90
  | 2, _ => exact qw92
  | 3, _ => exact qw94
  | 4, _ => exact qw96
  | k + 5, hk => exact absurd hk (by omega)
theorem inX5 : ∀ w ∈ u_ws RX5 TX5 3, w ∈ lw_all := by
  intro w hw
  obtain ⟨k, hk, rfl⟩ := List.mem_map.mp hw
  have hk := List.mem_range.mp hk
  match k, hk with
  | 0, _ => exact qw173
  | 1, _ => exact qw175
  | 2, _ => exact qw177
  | k + 3, hk => exact absurd hk (by omega)
theorem inX6 : ∀ w ∈ u_ws RX6 TX6 1, w ∈ lw_all := by
  intro w hw
  obtain ⟨k, hk, rfl⟩ := List.mem_map.mp hw
  have hk := List.mem_range.mp hk
  match k, hk with
  | 0, _ => exact qw294
  | k + 1, hk => exact absurd hk (by omega)
theorem inX7 : ∀ w ∈ u_ws RX7 TX7 6, w ∈ lw_all := by
  intro w hw
  obtain ⟨k, hk, rfl⟩ := List.mem_map.mp hw
  have hk := List.mem_range.mp hk
  match k, hk with
  | 0, _ => exact qw67
  | 1, _ => exact qw69
  | 2, _ => exact qw71
  | 3, _ => exact qw73
  | 4, _ => exact qw75
  | 5, _ => exact qw77
  | k + 6, hk => exact absurd hk (by omega)
theorem inX8 : ∀ w ∈ u_ws RX8 TX8 12, w ∈ lw_all := by
  intro w hw
  obtain ⟨k, hk, rfl⟩ := List.mem_map.mp hw
  have hk := List.mem_range.mp hk
  match k, hk with
  | 0, _ => exact qw214
  | 1, _ => exact qw216
  | 2, _ => exact qw218
  | 3, _ => exact qw220
  | 4, _ => exact qw222
  | 5, _ => exact qw224
  | 6, _ => exact qw226
  | 7, _ => exact qw228
  | 8, _ => exact qw230
  | 9, _ => exact qw232
  | 10, _ => exact qw234
  | 11, _ => exact qw236
  | k + 12, hk => exact absurd hk (by omega)
theorem inX9 : ∀ w ∈ u_ws RX9 TX9 6, w ∈ lw_all := by
  intro w hw
  obtain ⟨k, hk, rfl⟩ := List.mem_map.mp hw
  have hk := List.mem_range.mp hk
  match k, hk with
  | 0, _ => exact qw150
  | 1, _ => exact qw152
  | 2, _ => exact qw154
  | 3, _ => exact qw156
  | 4, _ => exact qw158
  | 5, _ => exact qw160
  | k + 6, hk => exact absurd hk (by omega)
theorem inX10 : ∀ w ∈ u_ws RX10 TX10 3, w ∈ lw_all := by
  intro w hw
  obtain ⟨k, hk, rfl⟩ := List.mem_map.mp hw
  have hk := List.mem_range.mp hk
  match k, hk with
  | 0, _ => exact qw257
  | 1, _ => exact qw259
  | 2, _ => exact qw261
  | k + 3, hk => exact absurd hk (by omega)
theorem inX11 : ∀ w ∈ u_ws RX11 TX11 10, w ∈ lw_all := by
  intro w hw
  obtain ⟨k, hk, rfl⟩ := List.mem_map.mp hw
  have hk := List.mem_range.mp hk
  match k, hk with
  | 0, _ => exact qw368
  | 1, _ => exact qw370
  | 2, _ => exact qw372
  | 3, _ => exact qw374
  | 4, _ => exact qw376
  | 5, _ => exact qw378
  | 6, _ => exact qw380
  | 7, _ => exact qw382
  | 8, _ => exact qw384
  | 9, _ => exact qw386
  | k + 10, hk => exact absurd hk (by omega)
theorem inJ0 : ∀ w ∈ u_ws RJ0 TJ0 4, w ∈ lw_all := by
  intro w hw
  obtain ⟨k, hk, rfl⟩ := List.mem_map.mp hw
  have hk := List.mem_range.mp hk
  match k, hk with
  | 0, _ => exact qw1079
  | 1, _ => exact qw1081
  | 2, _ => exact qw1083
  | 3, _ => exact qw1085
  | k + 4, hk => exact absurd hk (by omega)
theorem inJ4 : ∀ w ∈ u_ws RJ4 TJ4 4, w ∈ lw_all := by
  intro w hw
  obtain ⟨k, hk, rfl⟩ := List.mem_map.mp hw
  have hk := List.mem_range.mp hk
  match k, hk with
  | 0, _ => exact qw964
  | 1, _ => exact qw966
  | 2, _ => exact qw968
  | 3, _ => exact qw970
  | k + 4, hk => exact absurd hk (by omega)
