-- ===== PART A: goes FIRST, ahead of the names: the tables' words, and 'selects' of the private methods out of them =====
/-- a private method of a class that the tables say can be made, by its rows of tables_1 -/
def lw_okq (q : MethodName × Nat) : Prop := (q.1.cls ≠ "java/lang/invoke/MethodHandle" ∧ q.1.cls ≠ "java/lang/invoke/VarHandle") ∧ Cond.instantiable q.1.cls q.2 ∈ tables_1 ∧ Cond.privateMethod q.1 ∈ tables_1 ∧ Cond.instanceMethod q.1 ∈ tables_1
theorem lw_p0 : lw_okq (⟨"StickVotes$Parser", "advance", "()V"⟩, 5) := ⟨⟨by decide +kernel, by decide +kernel⟩, List.mem_of_getElem? (i := 30) (by decide +kernel), List.mem_of_getElem? (i := 420) (by decide +kernel), List.mem_of_getElem? (i := 421) (by decide +kernel)⟩
theorem lw_p1 : lw_okq (⟨"StickVotes$Parser", "readNumbers", "()Z"⟩, 5) := ⟨⟨by decide +kernel, by decide +kernel⟩, List.mem_of_getElem? (i := 30) (by decide +kernel), List.mem_of_getElem? (i := 438) (by decide +kernel), List.mem_of_getElem? (i := 439) (by decide +kernel)⟩
theorem lw_p2 : lw_okq (⟨"StickVotes$Parser", "skipKeyword", "(Ljava/lang/String;)Z"⟩, 5) := ⟨⟨by decide +kernel, by decide +kernel⟩, List.mem_of_getElem? (i := 30) (by decide +kernel), List.mem_of_getElem? (i := 443) (by decide +kernel), List.mem_of_getElem? (i := 444) (by decide +kernel)⟩
theorem lw_p3 : lw_okq (⟨"StickVotes$Parser", "isKeyword", "(Ljava/lang/String;)Z"⟩, 5) := ⟨⟨by decide +kernel, by decide +kernel⟩, List.mem_of_getElem? (i := 30) (by decide +kernel), List.mem_of_getElem? (i := 447) (by decide +kernel), List.mem_of_getElem? (i := 448) (by decide +kernel)⟩
theorem lw_p4 : lw_okq (⟨"StickVotes$Parser", "reads", "(Ljava/lang/String;)Z"⟩, 5) := ⟨⟨by decide +kernel, by decide +kernel⟩, List.mem_of_getElem? (i := 30) (by decide +kernel), List.mem_of_getElem? (i := 451) (by decide +kernel), List.mem_of_getElem? (i := 452) (by decide +kernel)⟩
theorem lw_p5 : lw_okq (⟨"StickVotes$Parser", "readNumber", "(III)Z"⟩, 5) := ⟨⟨by decide +kernel, by decide +kernel⟩, List.mem_of_getElem? (i := 30) (by decide +kernel), List.mem_of_getElem? (i := 503) (by decide +kernel), List.mem_of_getElem? (i := 504) (by decide +kernel)⟩
theorem lw_p6 : lw_okq (⟨"StickVotes$Parser", "digits", "()I"⟩, 5) := ⟨⟨by decide +kernel, by decide +kernel⟩, List.mem_of_getElem? (i := 30) (by decide +kernel), List.mem_of_getElem? (i := 507) (by decide +kernel), List.mem_of_getElem? (i := 508) (by decide +kernel)⟩
theorem lw_p7 : lw_okq (⟨"StickVotes$Parser", "readShares", "()Z"⟩, 5) := ⟨⟨by decide +kernel, by decide +kernel⟩, List.mem_of_getElem? (i := 30) (by decide +kernel), List.mem_of_getElem? (i := 513) (by decide +kernel), List.mem_of_getElem? (i := 514) (by decide +kernel)⟩
theorem lw_p8 : lw_okq (⟨"StickVotes$Parser", "skipSemicolon", "()Z"⟩, 5) := ⟨⟨by decide +kernel, by decide +kernel⟩, List.mem_of_getElem? (i := 30) (by decide +kernel), List.mem_of_getElem? (i := 522) (by decide +kernel), List.mem_of_getElem? (i := 523) (by decide +kernel)⟩
theorem lw_p9 : lw_okq (⟨"StickVotes$Parser", "readBoats", "()Z"⟩, 5) := ⟨⟨by decide +kernel, by decide +kernel⟩, List.mem_of_getElem? (i := 30) (by decide +kernel), List.mem_of_getElem? (i := 526) (by decide +kernel), List.mem_of_getElem? (i := 527) (by decide +kernel)⟩
theorem lw_p10 : lw_okq (⟨"StickVotes$Parser", "isName", "()Z"⟩, 5) := ⟨⟨by decide +kernel, by decide +kernel⟩, List.mem_of_getElem? (i := 30) (by decide +kernel), List.mem_of_getElem? (i := 531) (by decide +kernel), List.mem_of_getElem? (i := 532) (by decide +kernel)⟩
theorem lw_p11 : lw_okq (⟨"StickVotes$Parser", "isAnyKeyword", "()Z"⟩, 5) := ⟨⟨by decide +kernel, by decide +kernel⟩, List.mem_of_getElem? (i := 30) (by decide +kernel), List.mem_of_getElem? (i := 535) (by decide +kernel), List.mem_of_getElem? (i := 536) (by decide +kernel)⟩
theorem lw_p12 : lw_okq (⟨"StickVotes$Parser", "letters", "()I"⟩, 5) := ⟨⟨by decide +kernel, by decide +kernel⟩, List.mem_of_getElem? (i := 30) (by decide +kernel), List.mem_of_getElem? (i := 541) (by decide +kernel), List.mem_of_getElem? (i := 542) (by decide +kernel)⟩
theorem lw_p13 : lw_okq (⟨"StickVotes$Parser", "readPeople", "()Z"⟩, 5) := ⟨⟨by decide +kernel, by decide +kernel⟩, List.mem_of_getElem? (i := 30) (by decide +kernel), List.mem_of_getElem? (i := 556) (by decide +kernel), List.mem_of_getElem? (i := 557) (by decide +kernel)⟩
theorem lw_p14 : lw_okq (⟨"StickVotes$Parser", "readPerson", "()Z"⟩, 5) := ⟨⟨by decide +kernel, by decide +kernel⟩, List.mem_of_getElem? (i := 30) (by decide +kernel), List.mem_of_getElem? (i := 560) (by decide +kernel), List.mem_of_getElem? (i := 561) (by decide +kernel)⟩
theorem lw_p15 : lw_okq (⟨"StickVotes", "isBoat", "(I)Z"⟩, 10) := ⟨⟨by decide +kernel, by decide +kernel⟩, List.mem_of_getElem? (i := 22) (by decide +kernel), List.mem_of_getElem? (i := 599) (by decide +kernel), List.mem_of_getElem? (i := 600) (by decide +kernel)⟩
def lw_privs_1 : List (MethodName × Nat) := [(⟨"StickVotes$Parser", "advance", "()V"⟩, 5), (⟨"StickVotes$Parser", "readNumbers", "()Z"⟩, 5), (⟨"StickVotes$Parser", "skipKeyword", "(Ljava/lang/String;)Z"⟩, 5), (⟨"StickVotes$Parser", "isKeyword", "(Ljava/lang/String;)Z"⟩, 5), (⟨"StickVotes$Parser", "reads", "(Ljava/lang/String;)Z"⟩, 5), (⟨"StickVotes$Parser", "readNumber", "(III)Z"⟩, 5), (⟨"StickVotes$Parser", "digits", "()I"⟩, 5), (⟨"StickVotes$Parser", "readShares", "()Z"⟩, 5), (⟨"StickVotes$Parser", "skipSemicolon", "()Z"⟩, 5), (⟨"StickVotes$Parser", "readBoats", "()Z"⟩, 5), (⟨"StickVotes$Parser", "isName", "()Z"⟩, 5), (⟨"StickVotes$Parser", "isAnyKeyword", "()Z"⟩, 5), (⟨"StickVotes$Parser", "letters", "()I"⟩, 5), (⟨"StickVotes$Parser", "readPeople", "()Z"⟩, 5), (⟨"StickVotes$Parser", "readPerson", "()Z"⟩, 5), (⟨"StickVotes", "isBoat", "(I)Z"⟩, 10)]
theorem lw_r1 : ∀ q ∈ lw_privs_1, lw_okq q := List.forall_mem_cons.mpr ⟨lw_p0, List.forall_mem_cons.mpr ⟨lw_p1, List.forall_mem_cons.mpr ⟨lw_p2, List.forall_mem_cons.mpr ⟨lw_p3, List.forall_mem_cons.mpr ⟨lw_p4, List.forall_mem_cons.mpr ⟨lw_p5, List.forall_mem_cons.mpr ⟨lw_p6, List.forall_mem_cons.mpr ⟨lw_p7, List.forall_mem_cons.mpr ⟨lw_p8, List.forall_mem_cons.mpr ⟨lw_p9, List.forall_mem_cons.mpr ⟨lw_p10, List.forall_mem_cons.mpr ⟨lw_p11, List.forall_mem_cons.mpr ⟨lw_p12, List.forall_mem_cons.mpr ⟨lw_p13, List.forall_mem_cons.mpr ⟨lw_p14, List.forall_mem_cons.mpr ⟨lw_p15, fun _ h => absurd h List.not_mem_nil⟩⟩⟩⟩⟩⟩⟩⟩⟩⟩⟩⟩⟩⟩⟩⟩
theorem lw_p16 : lw_okq (⟨"StickVotes$Ring", "placeOf", "(I)I"⟩, 3) := ⟨⟨by decide +kernel, by decide +kernel⟩, List.mem_of_getElem? (i := 161) (by decide +kernel), List.mem_of_getElem? (i := 672) (by decide +kernel), List.mem_of_getElem? (i := 673) (by decide +kernel)⟩
theorem lw_p17 : lw_okq (⟨"StickVotes", "isPerson", "(I)Z"⟩, 10) := ⟨⟨by decide +kernel, by decide +kernel⟩, List.mem_of_getElem? (i := 22) (by decide +kernel), List.mem_of_getElem? (i := 709) (by decide +kernel), List.mem_of_getElem? (i := 710) (by decide +kernel)⟩
theorem lw_p18 : lw_okq (⟨"StickVotes$Village", "latestVote", "()I"⟩, 3) := ⟨⟨by decide +kernel, by decide +kernel⟩, List.mem_of_getElem? (i := 97) (by decide +kernel), List.mem_of_getElem? (i := 742) (by decide +kernel), List.mem_of_getElem? (i := 743) (by decide +kernel)⟩
theorem lw_p19 : lw_okq (⟨"StickVotes", "refusalToLay", "(III)I"⟩, 10) := ⟨⟨by decide +kernel, by decide +kernel⟩, List.mem_of_getElem? (i := 22) (by decide +kernel), List.mem_of_getElem? (i := 785) (by decide +kernel), List.mem_of_getElem? (i := 786) (by decide +kernel)⟩
theorem lw_p20 : lw_okq (⟨"StickVotes$Village", "resultFor", "(I)I"⟩, 3) := ⟨⟨by decide +kernel, by decide +kernel⟩, List.mem_of_getElem? (i := 97) (by decide +kernel), List.mem_of_getElem? (i := 881) (by decide +kernel), List.mem_of_getElem? (i := 882) (by decide +kernel)⟩
theorem lw_p21 : lw_okq (⟨"StickVotes$Ballot", "countAll", "()I"⟩, 2) := ⟨⟨by decide +kernel, by decide +kernel⟩, List.mem_of_getElem? (i := 237) (by decide +kernel), List.mem_of_getElem? (i := 895) (by decide +kernel), List.mem_of_getElem? (i := 896) (by decide +kernel)⟩
theorem lw_p22 : lw_okq (⟨"StickVotes$Village", "strike", "(I)V"⟩, 3) := ⟨⟨by decide +kernel, by decide +kernel⟩, List.mem_of_getElem? (i := 97) (by decide +kernel), List.mem_of_getElem? (i := 904) (by decide +kernel), List.mem_of_getElem? (i := 905) (by decide +kernel)⟩
theorem lw_p23 : lw_okq (⟨"StickVotes$Village", "correctResult", "(I)V"⟩, 3) := ⟨⟨by decide +kernel, by decide +kernel⟩, List.mem_of_getElem? (i := 97) (by decide +kernel), List.mem_of_getElem? (i := 912) (by decide +kernel), List.mem_of_getElem? (i := 913) (by decide +kernel)⟩
theorem lw_p24 : lw_okq (⟨"StickVotes$Sticks", "countAt", "(I)I"⟩, 6) := ⟨⟨by decide +kernel, by decide +kernel⟩, List.mem_of_getElem? (i := 136) (by decide +kernel), List.mem_of_getElem? (i := 920) (by decide +kernel), List.mem_of_getElem? (i := 921) (by decide +kernel)⟩
theorem lw_p25 : lw_okq (⟨"StickVotes$Village", "bringHomeTodays", "()I"⟩, 3) := ⟨⟨by decide +kernel, by decide +kernel⟩, List.mem_of_getElem? (i := 97) (by decide +kernel), List.mem_of_getElem? (i := 978) (by decide +kernel), List.mem_of_getElem? (i := 979) (by decide +kernel)⟩
theorem lw_p26 : lw_okq (⟨"StickVotes", "isSlot", "(I)Z"⟩, 10) := ⟨⟨by decide +kernel, by decide +kernel⟩, List.mem_of_getElem? (i := 22) (by decide +kernel), List.mem_of_getElem? (i := 989) (by decide +kernel), List.mem_of_getElem? (i := 990) (by decide +kernel)⟩
theorem lw_p27 : lw_okq (⟨"StickVotes$Village", "canBeLaid", "(I)Z"⟩, 3) := ⟨⟨by decide +kernel, by decide +kernel⟩, List.mem_of_getElem? (i := 97) (by decide +kernel), List.mem_of_getElem? (i := 1148) (by decide +kernel), List.mem_of_getElem? (i := 1149) (by decide +kernel)⟩
theorem lw_p28 : lw_okq (⟨"StickVotes$Village", "surplusBehind", "(I)I"⟩, 3) := ⟨⟨by decide +kernel, by decide +kernel⟩, List.mem_of_getElem? (i := 97) (by decide +kernel), List.mem_of_getElem? (i := 1192) (by decide +kernel), List.mem_of_getElem? (i := 1193) (by decide +kernel)⟩
theorem lw_p29 : lw_okq (⟨"StickVotes$Village", "mightOf", "(I)I"⟩, 3) := ⟨⟨by decide +kernel, by decide +kernel⟩, List.mem_of_getElem? (i := 97) (by decide +kernel), List.mem_of_getElem? (i := 1209) (by decide +kernel), List.mem_of_getElem? (i := 1210) (by decide +kernel)⟩
theorem lw_p30 : lw_okq (⟨"StickVotes$Scribe", "writeStick", "(LStickVotes$Setup;LStickVotes$Sticks;I)V"⟩, 1) := ⟨⟨by decide +kernel, by decide +kernel⟩, List.mem_of_getElem? (i := 283) (by decide +kernel), List.mem_of_getElem? (i := 1251) (by decide +kernel), List.mem_of_getElem? (i := 1252) (by decide +kernel)⟩
theorem lw_p31 : lw_okq (⟨"StickVotes$Scribe", "writeNumber", "(I)V"⟩, 1) := ⟨⟨by decide +kernel, by decide +kernel⟩, List.mem_of_getElem? (i := 283) (by decide +kernel), List.mem_of_getElem? (i := 1271) (by decide +kernel), List.mem_of_getElem? (i := 1272) (by decide +kernel)⟩
def lw_privs_2 : List (MethodName × Nat) := [(⟨"StickVotes$Ring", "placeOf", "(I)I"⟩, 3), (⟨"StickVotes", "isPerson", "(I)Z"⟩, 10), (⟨"StickVotes$Village", "latestVote", "()I"⟩, 3), (⟨"StickVotes", "refusalToLay", "(III)I"⟩, 10), (⟨"StickVotes$Village", "resultFor", "(I)I"⟩, 3), (⟨"StickVotes$Ballot", "countAll", "()I"⟩, 2), (⟨"StickVotes$Village", "strike", "(I)V"⟩, 3), (⟨"StickVotes$Village", "correctResult", "(I)V"⟩, 3), (⟨"StickVotes$Sticks", "countAt", "(I)I"⟩, 6), (⟨"StickVotes$Village", "bringHomeTodays", "()I"⟩, 3), (⟨"StickVotes", "isSlot", "(I)Z"⟩, 10), (⟨"StickVotes$Village", "canBeLaid", "(I)Z"⟩, 3), (⟨"StickVotes$Village", "surplusBehind", "(I)I"⟩, 3), (⟨"StickVotes$Village", "mightOf", "(I)I"⟩, 3), (⟨"StickVotes$Scribe", "writeStick", "(LStickVotes$Setup;LStickVotes$Sticks;I)V"⟩, 1), (⟨"StickVotes$Scribe", "writeNumber", "(I)V"⟩, 1)]
theorem lw_r2 : ∀ q ∈ lw_privs_2, lw_okq q := List.forall_mem_cons.mpr ⟨lw_p16, List.forall_mem_cons.mpr ⟨lw_p17, List.forall_mem_cons.mpr ⟨lw_p18, List.forall_mem_cons.mpr ⟨lw_p19, List.forall_mem_cons.mpr ⟨lw_p20, List.forall_mem_cons.mpr ⟨lw_p21, List.forall_mem_cons.mpr ⟨lw_p22, List.forall_mem_cons.mpr ⟨lw_p23, List.forall_mem_cons.mpr ⟨lw_p24, List.forall_mem_cons.mpr ⟨lw_p25, List.forall_mem_cons.mpr ⟨lw_p26, List.forall_mem_cons.mpr ⟨lw_p27, List.forall_mem_cons.mpr ⟨lw_p28, List.forall_mem_cons.mpr ⟨lw_p29, List.forall_mem_cons.mpr ⟨lw_p30, List.forall_mem_cons.mpr ⟨lw_p31, fun _ h => absurd h List.not_mem_nil⟩⟩⟩⟩⟩⟩⟩⟩⟩⟩⟩⟩⟩⟩⟩⟩
theorem lw_p32 : lw_okq (⟨"StickVotes$Scribe", "writeNumbers", "(LStickVotes$Setup;)V"⟩, 1) := ⟨⟨by decide +kernel, by decide +kernel⟩, List.mem_of_getElem? (i := 283) (by decide +kernel), List.mem_of_getElem? (i := 1320) (by decide +kernel), List.mem_of_getElem? (i := 1321) (by decide +kernel)⟩
theorem lw_p33 : lw_okq (⟨"StickVotes$Scribe", "writePerson", "(LStickVotes$Setup;LStickVotes$Fleet;I)V"⟩, 1) := ⟨⟨by decide +kernel, by decide +kernel⟩, List.mem_of_getElem? (i := 283) (by decide +kernel), List.mem_of_getElem? (i := 1338) (by decide +kernel), List.mem_of_getElem? (i := 1339) (by decide +kernel)⟩
theorem lw_p34 : lw_okq (⟨"StickVotesModel", "clear", "()V"⟩, 30) := ⟨⟨by decide +kernel, by decide +kernel⟩, List.mem_of_getElem? (i := 1353) (by decide +kernel), List.mem_of_getElem? (i := 1359) (by decide +kernel), List.mem_of_getElem? (i := 1360) (by decide +kernel)⟩
theorem lw_p35 : lw_okq (⟨"StickVotesModel", "sets", "(III)V"⟩, 30) := ⟨⟨by decide +kernel, by decide +kernel⟩, List.mem_of_getElem? (i := 1353) (by decide +kernel), List.mem_of_getElem? (i := 1363) (by decide +kernel), List.mem_of_getElem? (i := 1364) (by decide +kernel)⟩
theorem lw_p36 : lw_okq (⟨"StickVotesModel", "atHand", "(I)V"⟩, 30) := ⟨⟨by decide +kernel, by decide +kernel⟩, List.mem_of_getElem? (i := 1353) (by decide +kernel), List.mem_of_getElem? (i := 1367) (by decide +kernel), List.mem_of_getElem? (i := 1368) (by decide +kernel)⟩
theorem lw_p37 : lw_okq (⟨"StickVotesModel", "isLaidNoMore", "(I)V"⟩, 30) := ⟨⟨by decide +kernel, by decide +kernel⟩, List.mem_of_getElem? (i := 1353) (by decide +kernel), List.mem_of_getElem? (i := 1371) (by decide +kernel), List.mem_of_getElem? (i := 1372) (by decide +kernel)⟩
theorem lw_p38 : lw_okq (⟨"StickVotesModel", "feeds", "(I)V"⟩, 30) := ⟨⟨by decide +kernel, by decide +kernel⟩, List.mem_of_getElem? (i := 1353) (by decide +kernel), List.mem_of_getElem? (i := 1470) (by decide +kernel), List.mem_of_getElem? (i := 1471) (by decide +kernel)⟩
theorem lw_p39 : lw_okq (⟨"StickVotesModel", "readAll", "()V"⟩, 30) := ⟨⟨by decide +kernel, by decide +kernel⟩, List.mem_of_getElem? (i := 1353) (by decide +kernel), List.mem_of_getElem? (i := 1485) (by decide +kernel), List.mem_of_getElem? (i := 1486) (by decide +kernel)⟩
theorem lw_p40 : lw_okq (⟨"StickVotesModel", "next", "()V"⟩, 30) := ⟨⟨by decide +kernel, by decide +kernel⟩, List.mem_of_getElem? (i := 1353) (by decide +kernel), List.mem_of_getElem? (i := 1489) (by decide +kernel), List.mem_of_getElem? (i := 1490) (by decide +kernel)⟩
theorem lw_p41 : lw_okq (⟨"StickVotesModel", "isByte", "(II)Z"⟩, 30) := ⟨⟨by decide +kernel, by decide +kernel⟩, List.mem_of_getElem? (i := 1353) (by decide +kernel), List.mem_of_getElem? (i := 1493) (by decide +kernel), List.mem_of_getElem? (i := 1494) (by decide +kernel)⟩
theorem lw_p42 : lw_okq (⟨"StickVotesModel", "nextWord", "()V"⟩, 30) := ⟨⟨by decide +kernel, by decide +kernel⟩, List.mem_of_getElem? (i := 1353) (by decide +kernel), List.mem_of_getElem? (i := 1497) (by decide +kernel), List.mem_of_getElem? (i := 1498) (by decide +kernel)⟩
theorem lw_p43 : lw_okq (⟨"StickVotesModel", "nextInt", "()V"⟩, 30) := ⟨⟨by decide +kernel, by decide +kernel⟩, List.mem_of_getElem? (i := 1353) (by decide +kernel), List.mem_of_getElem? (i := 1515) (by decide +kernel), List.mem_of_getElem? (i := 1516) (by decide +kernel)⟩
theorem lw_p44 : lw_okq (⟨"StickVotesModel", "readNumbers", "()V"⟩, 30) := ⟨⟨by decide +kernel, by decide +kernel⟩, List.mem_of_getElem? (i := 1353) (by decide +kernel), List.mem_of_getElem? (i := 1519) (by decide +kernel), List.mem_of_getElem? (i := 1520) (by decide +kernel)⟩
theorem lw_p45 : lw_okq (⟨"StickVotesModel", "numberOf", "(JII)I"⟩, 30) := ⟨⟨by decide +kernel, by decide +kernel⟩, List.mem_of_getElem? (i := 1353) (by decide +kernel), List.mem_of_getElem? (i := 1523) (by decide +kernel), List.mem_of_getElem? (i := 1524) (by decide +kernel)⟩
theorem lw_p46 : lw_okq (⟨"StickVotesModel", "isWord", "(J)Z"⟩, 30) := ⟨⟨by decide +kernel, by decide +kernel⟩, List.mem_of_getElem? (i := 1353) (by decide +kernel), List.mem_of_getElem? (i := 1527) (by decide +kernel), List.mem_of_getElem? (i := 1528) (by decide +kernel)⟩
theorem lw_p47 : lw_okq (⟨"StickVotesModel", "takes", "(Z)V"⟩, 30) := ⟨⟨by decide +kernel, by decide +kernel⟩, List.mem_of_getElem? (i := 1353) (by decide +kernel), List.mem_of_getElem? (i := 1531) (by decide +kernel), List.mem_of_getElem? (i := 1532) (by decide +kernel)⟩
def lw_privs_3 : List (MethodName × Nat) := [(⟨"StickVotes$Scribe", "writeNumbers", "(LStickVotes$Setup;)V"⟩, 1), (⟨"StickVotes$Scribe", "writePerson", "(LStickVotes$Setup;LStickVotes$Fleet;I)V"⟩, 1), (⟨"StickVotesModel", "clear", "()V"⟩, 30), (⟨"StickVotesModel", "sets", "(III)V"⟩, 30), (⟨"StickVotesModel", "atHand", "(I)V"⟩, 30), (⟨"StickVotesModel", "isLaidNoMore", "(I)V"⟩, 30), (⟨"StickVotesModel", "feeds", "(I)V"⟩, 30), (⟨"StickVotesModel", "readAll", "()V"⟩, 30), (⟨"StickVotesModel", "next", "()V"⟩, 30), (⟨"StickVotesModel", "isByte", "(II)Z"⟩, 30), (⟨"StickVotesModel", "nextWord", "()V"⟩, 30), (⟨"StickVotesModel", "nextInt", "()V"⟩, 30), (⟨"StickVotesModel", "readNumbers", "()V"⟩, 30), (⟨"StickVotesModel", "numberOf", "(JII)I"⟩, 30), (⟨"StickVotesModel", "isWord", "(J)Z"⟩, 30), (⟨"StickVotesModel", "takes", "(Z)V"⟩, 30)]
theorem lw_r3 : ∀ q ∈ lw_privs_3, lw_okq q := List.forall_mem_cons.mpr ⟨lw_p32, List.forall_mem_cons.mpr ⟨lw_p33, List.forall_mem_cons.mpr ⟨lw_p34, List.forall_mem_cons.mpr ⟨lw_p35, List.forall_mem_cons.mpr ⟨lw_p36, List.forall_mem_cons.mpr ⟨lw_p37, List.forall_mem_cons.mpr ⟨lw_p38, List.forall_mem_cons.mpr ⟨lw_p39, List.forall_mem_cons.mpr ⟨lw_p40, List.forall_mem_cons.mpr ⟨lw_p41, List.forall_mem_cons.mpr ⟨lw_p42, List.forall_mem_cons.mpr ⟨lw_p43, List.forall_mem_cons.mpr ⟨lw_p44, List.forall_mem_cons.mpr ⟨lw_p45, List.forall_mem_cons.mpr ⟨lw_p46, List.forall_mem_cons.mpr ⟨lw_p47, fun _ h => absurd h List.not_mem_nil⟩⟩⟩⟩⟩⟩⟩⟩⟩⟩⟩⟩⟩⟩⟩⟩
theorem lw_p48 : lw_okq (⟨"StickVotesModel", "number", "(II)I"⟩, 30) := ⟨⟨by decide +kernel, by decide +kernel⟩, List.mem_of_getElem? (i := 1353) (by decide +kernel), List.mem_of_getElem? (i := 1535) (by decide +kernel), List.mem_of_getElem? (i := 1536) (by decide +kernel)⟩
theorem lw_p49 : lw_okq (⟨"StickVotesModel", "readBoat", "()V"⟩, 30) := ⟨⟨by decide +kernel, by decide +kernel⟩, List.mem_of_getElem? (i := 1353) (by decide +kernel), List.mem_of_getElem? (i := 1539) (by decide +kernel), List.mem_of_getElem? (i := 1540) (by decide +kernel)⟩
theorem lw_p50 : lw_okq (⟨"StickVotesModel", "named", "([II)I"⟩, 30) := ⟨⟨by decide +kernel, by decide +kernel⟩, List.mem_of_getElem? (i := 1353) (by decide +kernel), List.mem_of_getElem? (i := 1543) (by decide +kernel), List.mem_of_getElem? (i := 1544) (by decide +kernel)⟩
theorem lw_p51 : lw_okq (⟨"StickVotesModel", "readPerson", "()V"⟩, 30) := ⟨⟨by decide +kernel, by decide +kernel⟩, List.mem_of_getElem? (i := 1353) (by decide +kernel), List.mem_of_getElem? (i := 1547) (by decide +kernel), List.mem_of_getElem? (i := 1548) (by decide +kernel)⟩
theorem lw_p52 : lw_okq (⟨"StickVotesModel", "isBoat", "(I)Z"⟩, 30) := ⟨⟨by decide +kernel, by decide +kernel⟩, List.mem_of_getElem? (i := 1353) (by decide +kernel), List.mem_of_getElem? (i := 1563) (by decide +kernel), List.mem_of_getElem? (i := 1564) (by decide +kernel)⟩
theorem lw_p53 : lw_okq (⟨"StickVotesModel", "isOut", "(I)Z"⟩, 30) := ⟨⟨by decide +kernel, by decide +kernel⟩, List.mem_of_getElem? (i := 1353) (by decide +kernel), List.mem_of_getElem? (i := 1568) (by decide +kernel), List.mem_of_getElem? (i := 1569) (by decide +kernel)⟩
theorem lw_p54 : lw_okq (⟨"StickVotesModel", "ofBoat", "(II)I"⟩, 30) := ⟨⟨by decide +kernel, by decide +kernel⟩, List.mem_of_getElem? (i := 1353) (by decide +kernel), List.mem_of_getElem? (i := 1572) (by decide +kernel), List.mem_of_getElem? (i := 1573) (by decide +kernel)⟩
theorem lw_p55 : lw_okq (⟨"StickVotesModel", "keeps", "()V"⟩, 30) := ⟨⟨by decide +kernel, by decide +kernel⟩, List.mem_of_getElem? (i := 1353) (by decide +kernel), List.mem_of_getElem? (i := 1576) (by decide +kernel), List.mem_of_getElem? (i := 1577) (by decide +kernel)⟩
theorem lw_p56 : lw_okq (⟨"StickVotesModel", "of", "(II)I"⟩, 30) := ⟨⟨by decide +kernel, by decide +kernel⟩, List.mem_of_getElem? (i := 1353) (by decide +kernel), List.mem_of_getElem? (i := 1580) (by decide +kernel), List.mem_of_getElem? (i := 1581) (by decide +kernel)⟩
theorem lw_p57 : lw_okq (⟨"StickVotesModel", "isAtSea", "(I)Z"⟩, 30) := ⟨⟨by decide +kernel, by decide +kernel⟩, List.mem_of_getElem? (i := 1353) (by decide +kernel), List.mem_of_getElem? (i := 1584) (by decide +kernel), List.mem_of_getElem? (i := 1585) (by decide +kernel)⟩
theorem lw_p58 : lw_okq (⟨"StickVotesModel", "setsBoat", "(III)V"⟩, 30) := ⟨⟨by decide +kernel, by decide +kernel⟩, List.mem_of_getElem? (i := 1353) (by decide +kernel), List.mem_of_getElem? (i := 1588) (by decide +kernel), List.mem_of_getElem? (i := 1589) (by decide +kernel)⟩
theorem lw_p59 : lw_okq (⟨"StickVotesModel", "tells", "(III)V"⟩, 30) := ⟨⟨by decide +kernel, by decide +kernel⟩, List.mem_of_getElem? (i := 1353) (by decide +kernel), List.mem_of_getElem? (i := 1592) (by decide +kernel), List.mem_of_getElem? (i := 1593) (by decide +kernel)⟩
theorem lw_p60 : lw_okq (⟨"StickVotesModel", "comesHome", "(I)I"⟩, 30) := ⟨⟨by decide +kernel, by decide +kernel⟩, List.mem_of_getElem? (i := 1353) (by decide +kernel), List.mem_of_getElem? (i := 1604) (by decide +kernel), List.mem_of_getElem? (i := 1605) (by decide +kernel)⟩
theorem lw_p61 : lw_okq (⟨"StickVotesModel", "isPerson", "(I)Z"⟩, 30) := ⟨⟨by decide +kernel, by decide +kernel⟩, List.mem_of_getElem? (i := 1353) (by decide +kernel), List.mem_of_getElem? (i := 1612) (by decide +kernel), List.mem_of_getElem? (i := 1613) (by decide +kernel)⟩
theorem lw_p62 : lw_okq (⟨"StickVotesModel", "isOpen", "()Z"⟩, 30) := ⟨⟨by decide +kernel, by decide +kernel⟩, List.mem_of_getElem? (i := 1353) (by decide +kernel), List.mem_of_getElem? (i := 1622) (by decide +kernel), List.mem_of_getElem? (i := 1623) (by decide +kernel)⟩
theorem lw_p63 : lw_okq (⟨"StickVotesModel", "isBackFromVote", "(I)V"⟩, 30) := ⟨⟨by decide +kernel, by decide +kernel⟩, List.mem_of_getElem? (i := 1353) (by decide +kernel), List.mem_of_getElem? (i := 1626) (by decide +kernel), List.mem_of_getElem? (i := 1627) (by decide +kernel)⟩
def lw_privs_4 : List (MethodName × Nat) := [(⟨"StickVotesModel", "number", "(II)I"⟩, 30), (⟨"StickVotesModel", "readBoat", "()V"⟩, 30), (⟨"StickVotesModel", "named", "([II)I"⟩, 30), (⟨"StickVotesModel", "readPerson", "()V"⟩, 30), (⟨"StickVotesModel", "isBoat", "(I)Z"⟩, 30), (⟨"StickVotesModel", "isOut", "(I)Z"⟩, 30), (⟨"StickVotesModel", "ofBoat", "(II)I"⟩, 30), (⟨"StickVotesModel", "keeps", "()V"⟩, 30), (⟨"StickVotesModel", "of", "(II)I"⟩, 30), (⟨"StickVotesModel", "isAtSea", "(I)Z"⟩, 30), (⟨"StickVotesModel", "setsBoat", "(III)V"⟩, 30), (⟨"StickVotesModel", "tells", "(III)V"⟩, 30), (⟨"StickVotesModel", "comesHome", "(I)I"⟩, 30), (⟨"StickVotesModel", "isPerson", "(I)Z"⟩, 30), (⟨"StickVotesModel", "isOpen", "()Z"⟩, 30), (⟨"StickVotesModel", "isBackFromVote", "(I)V"⟩, 30)]
theorem lw_r4 : ∀ q ∈ lw_privs_4, lw_okq q := List.forall_mem_cons.mpr ⟨lw_p48, List.forall_mem_cons.mpr ⟨lw_p49, List.forall_mem_cons.mpr ⟨lw_p50, List.forall_mem_cons.mpr ⟨lw_p51, List.forall_mem_cons.mpr ⟨lw_p52, List.forall_mem_cons.mpr ⟨lw_p53, List.forall_mem_cons.mpr ⟨lw_p54, List.forall_mem_cons.mpr ⟨lw_p55, List.forall_mem_cons.mpr ⟨lw_p56, List.forall_mem_cons.mpr ⟨lw_p57, List.forall_mem_cons.mpr ⟨lw_p58, List.forall_mem_cons.mpr ⟨lw_p59, List.forall_mem_cons.mpr ⟨lw_p60, List.forall_mem_cons.mpr ⟨lw_p61, List.forall_mem_cons.mpr ⟨lw_p62, List.forall_mem_cons.mpr ⟨lw_p63, fun _ h => absurd h List.not_mem_nil⟩⟩⟩⟩⟩⟩⟩⟩⟩⟩⟩⟩⟩⟩⟩⟩
theorem lw_p64 : lw_okq (⟨"StickVotesModel", "isLaid", "(I)Z"⟩, 30) := ⟨⟨by decide +kernel, by decide +kernel⟩, List.mem_of_getElem? (i := 1353) (by decide +kernel), List.mem_of_getElem? (i := 1630) (by decide +kernel), List.mem_of_getElem? (i := 1631) (by decide +kernel)⟩
theorem lw_p65 : lw_okq (⟨"StickVotesModel", "carriedBy", "(I)I"⟩, 30) := ⟨⟨by decide +kernel, by decide +kernel⟩, List.mem_of_getElem? (i := 1353) (by decide +kernel), List.mem_of_getElem? (i := 1642) (by decide +kernel), List.mem_of_getElem? (i := 1643) (by decide +kernel)⟩
theorem lw_p66 : lw_okq (⟨"StickVotesModel", "would", "(III)I"⟩, 30) := ⟨⟨by decide +kernel, by decide +kernel⟩, List.mem_of_getElem? (i := 1353) (by decide +kernel), List.mem_of_getElem? (i := 1657) (by decide +kernel), List.mem_of_getElem? (i := 1658) (by decide +kernel)⟩
theorem lw_p67 : lw_okq (⟨"StickVotesModel", "has", "(II)Z"⟩, 30) := ⟨⟨by decide +kernel, by decide +kernel⟩, List.mem_of_getElem? (i := 1353) (by decide +kernel), List.mem_of_getElem? (i := 1661) (by decide +kernel), List.mem_of_getElem? (i := 1662) (by decide +kernel)⟩
theorem lw_p68 : lw_okq (⟨"StickVotesModel", "wrongBy", "(III)I"⟩, 30) := ⟨⟨by decide +kernel, by decide +kernel⟩, List.mem_of_getElem? (i := 1353) (by decide +kernel), List.mem_of_getElem? (i := 1665) (by decide +kernel), List.mem_of_getElem? (i := 1666) (by decide +kernel)⟩
theorem lw_p69 : lw_okq (⟨"StickVotesModel", "setIn", "(I)I"⟩, 30) := ⟨⟨by decide +kernel, by decide +kernel⟩, List.mem_of_getElem? (i := 1353) (by decide +kernel), List.mem_of_getElem? (i := 1669) (by decide +kernel), List.mem_of_getElem? (i := 1670) (by decide +kernel)⟩
theorem lw_p70 : lw_okq (⟨"StickVotesModel", "isInTime", "()Z"⟩, 30) := ⟨⟨by decide +kernel, by decide +kernel⟩, List.mem_of_getElem? (i := 1353) (by decide +kernel), List.mem_of_getElem? (i := 1677) (by decide +kernel), List.mem_of_getElem? (i := 1678) (by decide +kernel)⟩
theorem lw_p71 : lw_okq (⟨"StickVotesModel", "isClosed", "()Z"⟩, 30) := ⟨⟨by decide +kernel, by decide +kernel⟩, List.mem_of_getElem? (i := 1353) (by decide +kernel), List.mem_of_getElem? (i := 1681) (by decide +kernel), List.mem_of_getElem? (i := 1682) (by decide +kernel)⟩
theorem lw_p72 : lw_okq (⟨"StickVotesModel", "strikes", "(I)V"⟩, 30) := ⟨⟨by decide +kernel, by decide +kernel⟩, List.mem_of_getElem? (i := 1353) (by decide +kernel), List.mem_of_getElem? (i := 1685) (by decide +kernel), List.mem_of_getElem? (i := 1686) (by decide +kernel)⟩
theorem lw_p73 : lw_okq (⟨"StickVotesModel", "resultNow", "()I"⟩, 30) := ⟨⟨by decide +kernel, by decide +kernel⟩, List.mem_of_getElem? (i := 1353) (by decide +kernel), List.mem_of_getElem? (i := 1689) (by decide +kernel), List.mem_of_getElem? (i := 1690) (by decide +kernel)⟩
theorem lw_p74 : lw_okq (⟨"StickVotesModel", "needNow", "()I"⟩, 30) := ⟨⟨by decide +kernel, by decide +kernel⟩, List.mem_of_getElem? (i := 1353) (by decide +kernel), List.mem_of_getElem? (i := 1693) (by decide +kernel), List.mem_of_getElem? (i := 1694) (by decide +kernel)⟩
theorem lw_p75 : lw_okq (⟨"StickVotesModel", "needIn0", "(I)I"⟩, 30) := ⟨⟨by decide +kernel, by decide +kernel⟩, List.mem_of_getElem? (i := 1353) (by decide +kernel), List.mem_of_getElem? (i := 1697) (by decide +kernel), List.mem_of_getElem? (i := 1698) (by decide +kernel)⟩
theorem lw_p76 : lw_okq (⟨"StickVotesModel", "outOn", "(I)I"⟩, 30) := ⟨⟨by decide +kernel, by decide +kernel⟩, List.mem_of_getElem? (i := 1353) (by decide +kernel), List.mem_of_getElem? (i := 1701) (by decide +kernel), List.mem_of_getElem? (i := 1702) (by decide +kernel)⟩
theorem lw_p77 : lw_okq (⟨"StickVotesModel", "needOn", "(II)I"⟩, 30) := ⟨⟨by decide +kernel, by decide +kernel⟩, List.mem_of_getElem? (i := 1353) (by decide +kernel), List.mem_of_getElem? (i := 1705) (by decide +kernel), List.mem_of_getElem? (i := 1706) (by decide +kernel)⟩
theorem lw_p78 : lw_okq (⟨"StickVotesModel", "resultOf", "(IIII)I"⟩, 30) := ⟨⟨by decide +kernel, by decide +kernel⟩, List.mem_of_getElem? (i := 1353) (by decide +kernel), List.mem_of_getElem? (i := 1709) (by decide +kernel), List.mem_of_getElem? (i := 1710) (by decide +kernel)⟩
theorem lw_p79 : lw_okq (⟨"StickVotesModel", "keepsPast", "()V"⟩, 30) := ⟨⟨by decide +kernel, by decide +kernel⟩, List.mem_of_getElem? (i := 1353) (by decide +kernel), List.mem_of_getElem? (i := 1713) (by decide +kernel), List.mem_of_getElem? (i := 1714) (by decide +kernel)⟩
def lw_privs_5 : List (MethodName × Nat) := [(⟨"StickVotesModel", "isLaid", "(I)Z"⟩, 30), (⟨"StickVotesModel", "carriedBy", "(I)I"⟩, 30), (⟨"StickVotesModel", "would", "(III)I"⟩, 30), (⟨"StickVotesModel", "has", "(II)Z"⟩, 30), (⟨"StickVotesModel", "wrongBy", "(III)I"⟩, 30), (⟨"StickVotesModel", "setIn", "(I)I"⟩, 30), (⟨"StickVotesModel", "isInTime", "()Z"⟩, 30), (⟨"StickVotesModel", "isClosed", "()Z"⟩, 30), (⟨"StickVotesModel", "strikes", "(I)V"⟩, 30), (⟨"StickVotesModel", "resultNow", "()I"⟩, 30), (⟨"StickVotesModel", "needNow", "()I"⟩, 30), (⟨"StickVotesModel", "needIn0", "(I)I"⟩, 30), (⟨"StickVotesModel", "outOn", "(I)I"⟩, 30), (⟨"StickVotesModel", "needOn", "(II)I"⟩, 30), (⟨"StickVotesModel", "resultOf", "(IIII)I"⟩, 30), (⟨"StickVotesModel", "keepsPast", "()V"⟩, 30)]
theorem lw_r5 : ∀ q ∈ lw_privs_5, lw_okq q := List.forall_mem_cons.mpr ⟨lw_p64, List.forall_mem_cons.mpr ⟨lw_p65, List.forall_mem_cons.mpr ⟨lw_p66, List.forall_mem_cons.mpr ⟨lw_p67, List.forall_mem_cons.mpr ⟨lw_p68, List.forall_mem_cons.mpr ⟨lw_p69, List.forall_mem_cons.mpr ⟨lw_p70, List.forall_mem_cons.mpr ⟨lw_p71, List.forall_mem_cons.mpr ⟨lw_p72, List.forall_mem_cons.mpr ⟨lw_p73, List.forall_mem_cons.mpr ⟨lw_p74, List.forall_mem_cons.mpr ⟨lw_p75, List.forall_mem_cons.mpr ⟨lw_p76, List.forall_mem_cons.mpr ⟨lw_p77, List.forall_mem_cons.mpr ⟨lw_p78, List.forall_mem_cons.mpr ⟨lw_p79, fun _ h => absurd h List.not_mem_nil⟩⟩⟩⟩⟩⟩⟩⟩⟩⟩⟩⟩⟩⟩⟩⟩
theorem lw_p80 : lw_okq (⟨"StickVotesModel", "turnout", "()I"⟩, 30) := ⟨⟨by decide +kernel, by decide +kernel⟩, List.mem_of_getElem? (i := 1353) (by decide +kernel), List.mem_of_getElem? (i := 1717) (by decide +kernel), List.mem_of_getElem? (i := 1718) (by decide +kernel)⟩
theorem lw_p81 : lw_okq (⟨"StickVotesModel", "allLaid", "()I"⟩, 30) := ⟨⟨by decide +kernel, by decide +kernel⟩, List.mem_of_getElem? (i := 1353) (by decide +kernel), List.mem_of_getElem? (i := 1721) (by decide +kernel), List.mem_of_getElem? (i := 1722) (by decide +kernel)⟩
theorem lw_p82 : lw_okq (⟨"StickVotesModel", "wrongSet", "()I"⟩, 30) := ⟨⟨by decide +kernel, by decide +kernel⟩, List.mem_of_getElem? (i := 1353) (by decide +kernel), List.mem_of_getElem? (i := 1736) (by decide +kernel), List.mem_of_getElem? (i := 1737) (by decide +kernel)⟩
theorem lw_p83 : lw_okq (⟨"StickVotesModel", "passes", "()I"⟩, 30) := ⟨⟨by decide +kernel, by decide +kernel⟩, List.mem_of_getElem? (i := 1353) (by decide +kernel), List.mem_of_getElem? (i := 1744) (by decide +kernel), List.mem_of_getElem? (i := 1745) (by decide +kernel)⟩
theorem lw_p84 : lw_okq (⟨"StickVotesModel", "atSeaMany", "()I"⟩, 30) := ⟨⟨by decide +kernel, by decide +kernel⟩, List.mem_of_getElem? (i := 1353) (by decide +kernel), List.mem_of_getElem? (i := 1760) (by decide +kernel), List.mem_of_getElem? (i := 1761) (by decide +kernel)⟩
theorem lw_p85 : lw_okq (⟨"StickVotesModel", "stateOf", "()I"⟩, 30) := ⟨⟨by decide +kernel, by decide +kernel⟩, List.mem_of_getElem? (i := 1353) (by decide +kernel), List.mem_of_getElem? (i := 1764) (by decide +kernel), List.mem_of_getElem? (i := 1765) (by decide +kernel)⟩
theorem lw_p86 : lw_okq (⟨"StickVotesModel", "struckMany", "()I"⟩, 30) := ⟨⟨by decide +kernel, by decide +kernel⟩, List.mem_of_getElem? (i := 1353) (by decide +kernel), List.mem_of_getElem? (i := 1768) (by decide +kernel), List.mem_of_getElem? (i := 1769) (by decide +kernel)⟩
theorem lw_p87 : lw_okq (⟨"StickVotesModel", "manyOf", "(II)I"⟩, 30) := ⟨⟨by decide +kernel, by decide +kernel⟩, List.mem_of_getElem? (i := 1353) (by decide +kernel), List.mem_of_getElem? (i := 1780) (by decide +kernel), List.mem_of_getElem? (i := 1781) (by decide +kernel)⟩
theorem lw_p88 : lw_okq (⟨"StickVotesModel", "couldBeLaid", "(I)Z"⟩, 30) := ⟨⟨by decide +kernel, by decide +kernel⟩, List.mem_of_getElem? (i := 1353) (by decide +kernel), List.mem_of_getElem? (i := 1845) (by decide +kernel), List.mem_of_getElem? (i := 1846) (by decide +kernel)⟩
theorem lw_p89 : lw_okq (⟨"StickVotesModel", "ashoreOn", "(I)I"⟩, 30) := ⟨⟨by decide +kernel, by decide +kernel⟩, List.mem_of_getElem? (i := 1353) (by decide +kernel), List.mem_of_getElem? (i := 1866) (by decide +kernel), List.mem_of_getElem? (i := 1867) (by decide +kernel)⟩
theorem lw_p90 : lw_okq (⟨"StickVotesModel", "mightOf", "(I)I"⟩, 30) := ⟨⟨by decide +kernel, by decide +kernel⟩, List.mem_of_getElem? (i := 1353) (by decide +kernel), List.mem_of_getElem? (i := 1874) (by decide +kernel), List.mem_of_getElem? (i := 1875) (by decide +kernel)⟩
theorem lw_p91 : lw_okq (⟨"StickVotesModel", "saysView", "(I)V"⟩, 30) := ⟨⟨by decide +kernel, by decide +kernel⟩, List.mem_of_getElem? (i := 1353) (by decide +kernel), List.mem_of_getElem? (i := 1895) (by decide +kernel), List.mem_of_getElem? (i := 1896) (by decide +kernel)⟩
theorem lw_p92 : lw_okq (⟨"StickVotesModel", "startsText", "(I)V"⟩, 30) := ⟨⟨by decide +kernel, by decide +kernel⟩, List.mem_of_getElem? (i := 1353) (by decide +kernel), List.mem_of_getElem? (i := 1899) (by decide +kernel), List.mem_of_getElem? (i := 1900) (by decide +kernel)⟩
theorem lw_p93 : lw_okq (⟨"StickVotesModel", "saysPerson", "(I)V"⟩, 30) := ⟨⟨by decide +kernel, by decide +kernel⟩, List.mem_of_getElem? (i := 1353) (by decide +kernel), List.mem_of_getElem? (i := 1903) (by decide +kernel), List.mem_of_getElem? (i := 1904) (by decide +kernel)⟩
theorem lw_p94 : lw_okq (⟨"StickVotesModel", "saysWord", "(J)V"⟩, 30) := ⟨⟨by decide +kernel, by decide +kernel⟩, List.mem_of_getElem? (i := 1353) (by decide +kernel), List.mem_of_getElem? (i := 1907) (by decide +kernel), List.mem_of_getElem? (i := 1908) (by decide +kernel)⟩
theorem lw_p95 : lw_okq (⟨"StickVotesModel", "says", "(I)V"⟩, 30) := ⟨⟨by decide +kernel, by decide +kernel⟩, List.mem_of_getElem? (i := 1353) (by decide +kernel), List.mem_of_getElem? (i := 1912) (by decide +kernel), List.mem_of_getElem? (i := 1913) (by decide +kernel)⟩
def lw_privs_6 : List (MethodName × Nat) := [(⟨"StickVotesModel", "turnout", "()I"⟩, 30), (⟨"StickVotesModel", "allLaid", "()I"⟩, 30), (⟨"StickVotesModel", "wrongSet", "()I"⟩, 30), (⟨"StickVotesModel", "passes", "()I"⟩, 30), (⟨"StickVotesModel", "atSeaMany", "()I"⟩, 30), (⟨"StickVotesModel", "stateOf", "()I"⟩, 30), (⟨"StickVotesModel", "struckMany", "()I"⟩, 30), (⟨"StickVotesModel", "manyOf", "(II)I"⟩, 30), (⟨"StickVotesModel", "couldBeLaid", "(I)Z"⟩, 30), (⟨"StickVotesModel", "ashoreOn", "(I)I"⟩, 30), (⟨"StickVotesModel", "mightOf", "(I)I"⟩, 30), (⟨"StickVotesModel", "saysView", "(I)V"⟩, 30), (⟨"StickVotesModel", "startsText", "(I)V"⟩, 30), (⟨"StickVotesModel", "saysPerson", "(I)V"⟩, 30), (⟨"StickVotesModel", "saysWord", "(J)V"⟩, 30), (⟨"StickVotesModel", "says", "(I)V"⟩, 30)]
theorem lw_r6 : ∀ q ∈ lw_privs_6, lw_okq q := List.forall_mem_cons.mpr ⟨lw_p80, List.forall_mem_cons.mpr ⟨lw_p81, List.forall_mem_cons.mpr ⟨lw_p82, List.forall_mem_cons.mpr ⟨lw_p83, List.forall_mem_cons.mpr ⟨lw_p84, List.forall_mem_cons.mpr ⟨lw_p85, List.forall_mem_cons.mpr ⟨lw_p86, List.forall_mem_cons.mpr ⟨lw_p87, List.forall_mem_cons.mpr ⟨lw_p88, List.forall_mem_cons.mpr ⟨lw_p89, List.forall_mem_cons.mpr ⟨lw_p90, List.forall_mem_cons.mpr ⟨lw_p91, List.forall_mem_cons.mpr ⟨lw_p92, List.forall_mem_cons.mpr ⟨lw_p93, List.forall_mem_cons.mpr ⟨lw_p94, List.forall_mem_cons.mpr ⟨lw_p95, fun _ h => absurd h List.not_mem_nil⟩⟩⟩⟩⟩⟩⟩⟩⟩⟩⟩⟩⟩⟩⟩⟩
theorem lw_p96 : lw_okq (⟨"StickVotesModel", "saysNumber", "(I)V"⟩, 30) := ⟨⟨by decide +kernel, by decide +kernel⟩, List.mem_of_getElem? (i := 1353) (by decide +kernel), List.mem_of_getElem? (i := 1920) (by decide +kernel), List.mem_of_getElem? (i := 1921) (by decide +kernel)⟩
theorem lw_p97 : lw_okq (⟨"StickVotesModel", "saysStory", "(I)V"⟩, 30) := ⟨⟨by decide +kernel, by decide +kernel⟩, List.mem_of_getElem? (i := 1353) (by decide +kernel), List.mem_of_getElem? (i := 1932) (by decide +kernel), List.mem_of_getElem? (i := 1933) (by decide +kernel)⟩
theorem lw_p98 : lw_okq (⟨"StickVotesModel", "saysSetup", "(I)V"⟩, 30) := ⟨⟨by decide +kernel, by decide +kernel⟩, List.mem_of_getElem? (i := 1353) (by decide +kernel), List.mem_of_getElem? (i := 1953) (by decide +kernel), List.mem_of_getElem? (i := 1954) (by decide +kernel)⟩
theorem lw_p99 : lw_okq (⟨"StickVotesModel", "saysNumbers", "()V"⟩, 30) := ⟨⟨by decide +kernel, by decide +kernel⟩, List.mem_of_getElem? (i := 1353) (by decide +kernel), List.mem_of_getElem? (i := 1957) (by decide +kernel), List.mem_of_getElem? (i := 1958) (by decide +kernel)⟩
theorem lw_p100 : lw_okq (⟨"StickVotesModel", "saysPair", "(JII)V"⟩, 30) := ⟨⟨by decide +kernel, by decide +kernel⟩, List.mem_of_getElem? (i := 1353) (by decide +kernel), List.mem_of_getElem? (i := 1961) (by decide +kernel), List.mem_of_getElem? (i := 1962) (by decide +kernel)⟩
def lw_privs_7 : List (MethodName × Nat) := [(⟨"StickVotesModel", "saysNumber", "(I)V"⟩, 30), (⟨"StickVotesModel", "saysStory", "(I)V"⟩, 30), (⟨"StickVotesModel", "saysSetup", "(I)V"⟩, 30), (⟨"StickVotesModel", "saysNumbers", "()V"⟩, 30), (⟨"StickVotesModel", "saysPair", "(JII)V"⟩, 30)]
theorem lw_r7 : ∀ q ∈ lw_privs_7, lw_okq q := List.forall_mem_cons.mpr ⟨lw_p96, List.forall_mem_cons.mpr ⟨lw_p97, List.forall_mem_cons.mpr ⟨lw_p98, List.forall_mem_cons.mpr ⟨lw_p99, List.forall_mem_cons.mpr ⟨lw_p100, fun _ h => absurd h List.not_mem_nil⟩⟩⟩⟩⟩
def lw_privs : List (MethodName × Nat) := lw_privs_1 ++ (lw_privs_2 ++ (lw_privs_3 ++ (lw_privs_4 ++ (lw_privs_5 ++ (lw_privs_6 ++ (lw_privs_7))))))
def lw_tbl : List Cond := k2_sels lw_privs ++ tables_1
theorem lw_privs_ok : ∀ q ∈ lw_privs, lw_okq q := by
  show ∀ q ∈ lw_privs_1 ++ (lw_privs_2 ++ (lw_privs_3 ++ (lw_privs_4 ++ (lw_privs_5 ++ (lw_privs_6 ++ (lw_privs_7)))))), lw_okq q
  exact List.forall_mem_append.mpr ⟨lw_r1, List.forall_mem_append.mpr ⟨lw_r2, List.forall_mem_append.mpr ⟨lw_r3, List.forall_mem_append.mpr ⟨lw_r4, List.forall_mem_append.mpr ⟨lw_r5, List.forall_mem_append.mpr ⟨lw_r6, lw_r7⟩⟩⟩⟩⟩⟩
/-- the streams that the claim lets the run draw from -/
abbrev lw_cs : List Choice := [Jvm.Choice.named "NaN.bits"]
theorem lw_bits : nanBits ∈ lw_cs := by first | decide | exact List.mem_cons_self | simp [lw_cs, nanBits]
def RX0 : String := "StickVotes$Ballot"
def TX0 : u_T := fun k => match k with
  | 0 => ("StickVotes$Ballot", "basketOf", "[I", true)
  | _ => ("StickVotes$Ballot", "counts", "[I", true)
def tyX0 : Nat → FieldType := fun k => match k with
  | 0 => .array .int
  | _ => .array .int
theorem nmX0 : ∀ a, a < 2 → ∀ b, b < 2 → a ≠ b → (TX0 a).2.1 ≠ (TX0 b).2.1 := by decide +kernel
theorem tyX0_ok : ∀ k, k < 2 → parseFieldDescriptor (TX0 k).2.2.1 = some (tyX0 k) := by decide +kernel
abbrev cX0_init : ByteArray := prog_2_method_1_code
def yX0_init : MethodName := ⟨RX0, "<init>", "()V"⟩
abbrev cX0_takeFrom : ByteArray := prog_2_method_2_code
def yX0_takeFrom : MethodName := ⟨RX0, "takeFrom", "(LStickVotes$Sticks;)V"⟩
abbrev cX0_put : ByteArray := prog_2_method_3_code
def yX0_put : MethodName := ⟨RX0, "put", "(II)V"⟩
abbrev cX0_leaveOut : ByteArray := prog_2_method_4_code
def yX0_leaveOut : MethodName := ⟨RX0, "leaveOut", "(I)V"⟩
abbrev cX0_result : ByteArray := prog_2_method_5_code
def yX0_result : MethodName := ⟨RX0, "result", "(I)I"⟩
abbrev cX0_countAll : ByteArray := prog_2_method_6_code
def yX0_countAll : MethodName := ⟨RX0, "countAll", "()I"⟩
def RX1 : String := "StickVotes$Bytes"
def TX1 : u_T := fun k => match k with
  | 0 => ("StickVotes$Bytes", "cells", "[B", true)
  | _ => ("StickVotes$Bytes", "length", "I", false)
def tyX1 : Nat → FieldType := fun k => match k with
  | 0 => .array .byte
  | _ => .int
theorem nmX1 : ∀ a, a < 2 → ∀ b, b < 2 → a ≠ b → (TX1 a).2.1 ≠ (TX1 b).2.1 := by decide +kernel
theorem tyX1_ok : ∀ k, k < 2 → parseFieldDescriptor (TX1 k).2.2.1 = some (tyX1 k) := by decide +kernel
abbrev cX1_init : ByteArray := prog_3_method_1_code
def yX1_init : MethodName := ⟨RX1, "<init>", "(I)V"⟩
abbrev cX1_length : ByteArray := prog_3_method_2_code
def yX1_length : MethodName := ⟨RX1, "length", "()I"⟩
abbrev cX1_at : ByteArray := prog_3_method_3_code
def yX1_at : MethodName := ⟨RX1, "at", "(I)I"⟩
abbrev cX1_cutTo : ByteArray := prog_3_method_4_code
def yX1_cutTo : MethodName := ⟨RX1, "cutTo", "(I)V"⟩
abbrev cX1_add : ByteArray := prog_3_method_5_code
def yX1_add : MethodName := ⟨RX1, "add", "(I)V"⟩
abbrev cX1_addWhole : ByteArray := prog_3_method_6_code
def yX1_addWhole : MethodName := ⟨RX1, "addWhole", "(I)V"⟩
abbrev cX1_addText : ByteArray := prog_3_method_7_code
def yX1_addText : MethodName := ⟨RX1, "addText", "(Ljava/lang/String;)V"⟩
abbrev cX1_addName : ByteArray := prog_3_method_8_code
def yX1_addName : MethodName := ⟨RX1, "addName", "(I)V"⟩
abbrev cX1_addNumber : ByteArray := prog_3_method_9_code
def yX1_addNumber : MethodName := ⟨RX1, "addNumber", "(I)V"⟩
def RX2 : String := "StickVotes$Fleet"
def TX2 : u_T := fun k => match k with
  | 0 => ("StickVotes$Fleet", "boatOf", "[I", true)
  | 1 => ("StickVotes$Fleet", "atSea", "[I", true)
  | 2 => ("StickVotes$Fleet", "faults", "[I", true)
  | 3 => ("StickVotes$Fleet", "daysAtSea", "[I", true)
  | 4 => ("StickVotes$Fleet", "back", "[I", true)
  | _ => ("StickVotes$Fleet", "sailed", "[I", true)
def tyX2 : Nat → FieldType := fun k => match k with
  | 0 => .array .int
  | 1 => .array .int
  | 2 => .array .int
  | 3 => .array .int
  | 4 => .array .int
  | _ => .array .int
theorem nmX2 : ∀ a, a < 6 → ∀ b, b < 6 → a ≠ b → (TX2 a).2.1 ≠ (TX2 b).2.1 := by decide +kernel
theorem tyX2_ok : ∀ k, k < 6 → parseFieldDescriptor (TX2 k).2.2.1 = some (tyX2 k) := by decide +kernel
abbrev cX2_init : ByteArray := prog_4_method_1_code
def yX2_init : MethodName := ⟨RX2, "<init>", "()V"⟩
abbrev cX2_begin : ByteArray := prog_4_method_2_code
def yX2_begin : MethodName := ⟨RX2, "begin", "(LStickVotes$Setup;)V"⟩
abbrev cX2_copyFrom : ByteArray := prog_4_method_3_code
def yX2_copyFrom : MethodName := ⟨RX2, "copyFrom", "(LStickVotes$Fleet;)V"⟩
abbrev cX2_boatOf : ByteArray := prog_4_method_4_code
def yX2_boatOf : MethodName := ⟨RX2, "boatOf", "(I)I"⟩
abbrev cX2_isAtSea : ByteArray := prog_4_method_5_code
def yX2_isAtSea : MethodName := ⟨RX2, "isAtSea", "(I)Z"⟩
abbrev cX2_faultsOf : ByteArray := prog_4_method_6_code
def yX2_faultsOf : MethodName := ⟨RX2, "faultsOf", "(I)I"⟩
abbrev cX2_daysAtSeaOf : ByteArray := prog_4_method_7_code
def yX2_daysAtSeaOf : MethodName := ⟨RX2, "daysAtSeaOf", "(I)I"⟩
abbrev cX2_isOut : ByteArray := prog_4_method_8_code
def yX2_isOut : MethodName := ⟨RX2, "isOut", "(I)Z"⟩
abbrev cX2_backOf : ByteArray := prog_4_method_9_code
def yX2_backOf : MethodName := ⟨RX2, "backOf", "(I)I"⟩
abbrev cX2_sailedOf : ByteArray := prog_4_method_10_code
def yX2_sailedOf : MethodName := ⟨RX2, "sailedOf", "(I)I"⟩
abbrev cX2_assign : ByteArray := prog_4_method_11_code
def yX2_assign : MethodName := ⟨RX2, "assign", "(II)V"⟩
abbrev cX2_addFault : ByteArray := prog_4_method_12_code
def yX2_addFault : MethodName := ⟨RX2, "addFault", "(I)V"⟩
abbrev cX2_moveBack : ByteArray := prog_4_method_13_code
def yX2_moveBack : MethodName := ⟨RX2, "moveBack", "(II)V"⟩
abbrev cX2_leave : ByteArray := prog_4_method_14_code
def yX2_leave : MethodName := ⟨RX2, "leave", "(II)I"⟩
abbrev cX2_arrive : ByteArray := prog_4_method_15_code
def yX2_arrive : MethodName := ⟨RX2, "arrive", "(I)I"⟩
abbrev cX2_countDayAtSea : ByteArray := prog_4_method_16_code
def yX2_countDayAtSea : MethodName := ⟨RX2, "countDayAtSea", "()V"⟩
abbrev cX2_aboard : ByteArray := prog_4_method_17_code
def yX2_aboard : MethodName := ⟨RX2, "aboard", "(I)I"⟩
abbrev cX2_belongingTo : ByteArray := prog_4_method_18_code
def yX2_belongingTo : MethodName := ⟨RX2, "belongingTo", "(I)I"⟩
abbrev cX2_boatsOut : ByteArray := prog_4_method_19_code
def yX2_boatsOut : MethodName := ⟨RX2, "boatsOut", "()I"⟩
abbrev cX2_boatsOutOn : ByteArray := prog_4_method_20_code
def yX2_boatsOutOn : MethodName := ⟨RX2, "boatsOutOn", "(I)I"⟩
abbrev cX2_peopleAtSea : ByteArray := prog_4_method_21_code
def yX2_peopleAtSea : MethodName := ⟨RX2, "peopleAtSea", "()I"⟩
abbrev cX2_peopleAtSeaOn : ByteArray := prog_4_method_22_code
def yX2_peopleAtSeaOn : MethodName := ⟨RX2, "peopleAtSeaOn", "(I)I"⟩
abbrev cX2_daysAtSeaOfAll : ByteArray := prog_4_method_23_code
def yX2_daysAtSeaOfAll : MethodName := ⟨RX2, "daysAtSeaOfAll", "()J"⟩
def RX3 : String := "StickVotes$History"
def TX3 : u_T := fun k => match k with
  | 0 => ("StickVotes$History", "states", "[LStickVotes$State;", true)
  | 1 => ("StickVotes$History", "steps", "I", false)
  | _ => ("StickVotes$History", "next", "I", false)
def tyX3 : Nat → FieldType := fun k => match k with
  | 0 => .array (.object "StickVotes$State")
  | 1 => .int
  | _ => .int
theorem nmX3 : ∀ a, a < 3 → ∀ b, b < 3 → a ≠ b → (TX3 a).2.1 ≠ (TX3 b).2.1 := by decide +kernel
theorem tyX3_ok : ∀ k, k < 3 → parseFieldDescriptor (TX3 k).2.2.1 = some (tyX3 k) := by decide +kernel
abbrev cX3_init : ByteArray := prog_5_method_1_code
def yX3_init : MethodName := ⟨RX3, "<init>", "()V"⟩
abbrev cX3_steps : ByteArray := prog_5_method_2_code
def yX3_steps : MethodName := ⟨RX3, "steps", "()I"⟩
abbrev cX3_forget : ByteArray := prog_5_method_3_code
def yX3_forget : MethodName := ⟨RX3, "forget", "()V"⟩
abbrev cX3_remember : ByteArray := prog_5_method_4_code
def yX3_remember : MethodName := ⟨RX3, "remember", "(LStickVotes$State;)V"⟩
abbrev cX3_bringBack : ByteArray := prog_5_method_5_code
def yX3_bringBack : MethodName := ⟨RX3, "bringBack", "(LStickVotes$State;)Z"⟩
def RX4 : String := "StickVotes$Parser"
def TX4 : u_T := fun k => match k with
  | 0 => ("StickVotes$Parser", "tape", "LStickVotes$Bytes;", true)
  | 1 => ("StickVotes$Parser", "draft", "LStickVotes$Setup;", true)
  | 2 => ("StickVotes$Parser", "kind", "I", false)
  | 3 => ("StickVotes$Parser", "start", "I", false)
  | _ => ("StickVotes$Parser", "end", "I", false)
def tyX4 : Nat → FieldType := fun k => match k with
  | 0 => .object "StickVotes$Bytes"
  | 1 => .object "StickVotes$Setup"
  | 2 => .int
  | 3 => .int
  | _ => .int
theorem nmX4 : ∀ a, a < 5 → ∀ b, b < 5 → a ≠ b → (TX4 a).2.1 ≠ (TX4 b).2.1 := by decide +kernel
theorem tyX4_ok : ∀ k, k < 5 → parseFieldDescriptor (TX4 k).2.2.1 = some (tyX4 k) := by decide +kernel
abbrev cX4_init : ByteArray := prog_6_method_1_code
def yX4_init : MethodName := ⟨RX4, "<init>", "()V"⟩
abbrev cX4_readTape : ByteArray := prog_6_method_2_code
def yX4_readTape : MethodName := ⟨RX4, "readTape", "()I"⟩
abbrev cX4_readNumbers : ByteArray := prog_6_method_3_code
def yX4_readNumbers : MethodName := ⟨RX4, "readNumbers", "()Z"⟩
abbrev cX4_readShares : ByteArray := prog_6_method_4_code
def yX4_readShares : MethodName := ⟨RX4, "readShares", "()Z"⟩
abbrev cX4_readBoats : ByteArray := prog_6_method_5_code
def yX4_readBoats : MethodName := ⟨RX4, "readBoats", "()Z"⟩
abbrev cX4_readPeople : ByteArray := prog_6_method_6_code
def yX4_readPeople : MethodName := ⟨RX4, "readPeople", "()Z"⟩
abbrev cX4_readPerson : ByteArray := prog_6_method_7_code
def yX4_readPerson : MethodName := ⟨RX4, "readPerson", "()Z"⟩
abbrev cX4_readNumber : ByteArray := prog_6_method_8_code
def yX4_readNumber : MethodName := ⟨RX4, "readNumber", "(III)Z"⟩
abbrev cX4_skipKeyword : ByteArray := prog_6_method_9_code
def yX4_skipKeyword : MethodName := ⟨RX4, "skipKeyword", "(Ljava/lang/String;)Z"⟩
abbrev cX4_skipSemicolon : ByteArray := prog_6_method_10_code
def yX4_skipSemicolon : MethodName := ⟨RX4, "skipSemicolon", "()Z"⟩
abbrev cX4_isKeyword : ByteArray := prog_6_method_11_code
def yX4_isKeyword : MethodName := ⟨RX4, "isKeyword", "(Ljava/lang/String;)Z"⟩
abbrev cX4_isName : ByteArray := prog_6_method_12_code
def yX4_isName : MethodName := ⟨RX4, "isName", "()Z"⟩
abbrev cX4_advance : ByteArray := prog_6_method_13_code
def yX4_advance : MethodName := ⟨RX4, "advance", "()V"⟩
abbrev cX4_isAnyKeyword : ByteArray := prog_6_method_14_code
def yX4_isAnyKeyword : MethodName := ⟨RX4, "isAnyKeyword", "()Z"⟩
abbrev cX4_reads : ByteArray := prog_6_method_15_code
def yX4_reads : MethodName := ⟨RX4, "reads", "(Ljava/lang/String;)Z"⟩
abbrev cX4_letters : ByteArray := prog_6_method_16_code
def yX4_letters : MethodName := ⟨RX4, "letters", "()I"⟩
abbrev cX4_digits : ByteArray := prog_6_method_17_code
def yX4_digits : MethodName := ⟨RX4, "digits", "()I"⟩
abbrev cX4_isSpace : ByteArray := prog_6_method_18_code
def yX4_isSpace : MethodName := ⟨RX4, "isSpace", "(I)Z"⟩
abbrev cX4_isLetter : ByteArray := prog_6_method_19_code
def yX4_isLetter : MethodName := ⟨RX4, "isLetter", "(I)Z"⟩
abbrev cX4_isDigit : ByteArray := prog_6_method_20_code
def yX4_isDigit : MethodName := ⟨RX4, "isDigit", "(I)Z"⟩
def RX5 : String := "StickVotes$Ring"
def TX5 : u_T := fun k => match k with
  | 0 => ("StickVotes$Ring", "rows", "I", true)
  | 1 => ("StickVotes$Ring", "cells", "[I", true)
  | _ => ("StickVotes$Ring", "added", "I", false)
def tyX5 : Nat → FieldType := fun k => match k with
  | 0 => .int
  | 1 => .array .int
  | _ => .int
theorem nmX5 : ∀ a, a < 3 → ∀ b, b < 3 → a ≠ b → (TX5 a).2.1 ≠ (TX5 b).2.1 := by decide +kernel
theorem tyX5_ok : ∀ k, k < 3 → parseFieldDescriptor (TX5 k).2.2.1 = some (tyX5 k) := by decide +kernel
abbrev cX5_init : ByteArray := prog_7_method_1_code
def yX5_init : MethodName := ⟨RX5, "<init>", "(I)V"⟩
abbrev cX5_clear : ByteArray := prog_7_method_2_code
def yX5_clear : MethodName := ⟨RX5, "clear", "()V"⟩
abbrev cX5_copyFrom : ByteArray := prog_7_method_3_code
def yX5_copyFrom : MethodName := ⟨RX5, "copyFrom", "(LStickVotes$Ring;)V"⟩
abbrev cX5_size : ByteArray := prog_7_method_4_code
def yX5_size : MethodName := ⟨RX5, "size", "()I"⟩
abbrev cX5_oldest : ByteArray := prog_7_method_5_code
def yX5_oldest : MethodName := ⟨RX5, "oldest", "()I"⟩
abbrev cX5_add : ByteArray := prog_7_method_6_code
def yX5_add : MethodName := ⟨RX5, "add", "(IIII)V"⟩
abbrev cX5_has : ByteArray := prog_7_method_7_code
def yX5_has : MethodName := ⟨RX5, "has", "(I)Z"⟩
abbrev cX5_part : ByteArray := prog_7_method_8_code
def yX5_part : MethodName := ⟨RX5, "part", "(II)I"⟩
abbrev cX5_setPart : ByteArray := prog_7_method_9_code
def yX5_setPart : MethodName := ⟨RX5, "setPart", "(III)V"⟩
abbrev cX5_placeOf : ByteArray := prog_7_method_10_code
def yX5_placeOf : MethodName := ⟨RX5, "placeOf", "(I)I"⟩
def RX6 : String := "StickVotes$Scribe"
def TX6 : u_T := fun k => match k with
  | _ => ("StickVotes$Scribe", "text", "LStickVotes$Bytes;", true)
def tyX6 : Nat → FieldType := fun k => match k with
  | _ => .object "StickVotes$Bytes"
theorem nmX6 : ∀ a, a < 1 → ∀ b, b < 1 → a ≠ b → (TX6 a).2.1 ≠ (TX6 b).2.1 := by decide +kernel
theorem tyX6_ok : ∀ k, k < 1 → parseFieldDescriptor (TX6 k).2.2.1 = some (tyX6 k) := by decide +kernel
abbrev cX6_init : ByteArray := prog_8_method_1_code
def yX6_init : MethodName := ⟨RX6, "<init>", "()V"⟩
abbrev cX6_writeView : ByteArray := prog_8_method_2_code
def yX6_writeView : MethodName := ⟨RX6, "writeView", "(LStickVotes$Setup;LStickVotes$State;)LStickVotes$Bytes;"⟩
abbrev cX6_writeStick : ByteArray := prog_8_method_3_code
def yX6_writeStick : MethodName := ⟨RX6, "writeStick", "(LStickVotes$Setup;LStickVotes$Sticks;I)V"⟩
abbrev cX6_placeWord : ByteArray := prog_8_method_4_code
def yX6_placeWord : MethodName := ⟨RX6, "placeWord", "(I)Ljava/lang/String;"⟩
abbrev cX6_writeStory : ByteArray := prog_8_method_5_code
def yX6_writeStory : MethodName := ⟨RX6, "writeStory", "(LStickVotes$Ring;)LStickVotes$Bytes;"⟩
abbrev cX6_kindWord : ByteArray := prog_8_method_6_code
def yX6_kindWord : MethodName := ⟨RX6, "kindWord", "(I)Ljava/lang/String;"⟩
abbrev cX6_writeSetup : ByteArray := prog_8_method_7_code
def yX6_writeSetup : MethodName := ⟨RX6, "writeSetup", "(LStickVotes$Setup;LStickVotes$Fleet;)LStickVotes$Bytes;"⟩
abbrev cX6_writeNumbers : ByteArray := prog_8_method_8_code
def yX6_writeNumbers : MethodName := ⟨RX6, "writeNumbers", "(LStickVotes$Setup;)V"⟩
abbrev cX6_writePerson : ByteArray := prog_8_method_9_code
def yX6_writePerson : MethodName := ⟨RX6, "writePerson", "(LStickVotes$Setup;LStickVotes$Fleet;I)V"⟩
abbrev cX6_writeNumber : ByteArray := prog_8_method_10_code
def yX6_writeNumber : MethodName := ⟨RX6, "writeNumber", "(I)V"⟩
def RX7 : String := "StickVotes$Setup"
def TX7 : u_T := fun k => match k with
  | 0 => ("StickVotes$Setup", "numbers", "[I", true)
  | 1 => ("StickVotes$Setup", "boatNames", "[I", true)
  | 2 => ("StickVotes$Setup", "personNames", "[I", true)
  | 3 => ("StickVotes$Setup", "firstBoats", "[I", true)
  | 4 => ("StickVotes$Setup", "boats", "I", false)
  | _ => ("StickVotes$Setup", "people", "I", false)
def tyX7 : Nat → FieldType := fun k => match k with
  | 0 => .array .int
  | 1 => .array .int
  | 2 => .array .int
  | 3 => .array .int
  | 4 => .int
  | _ => .int
theorem nmX7 : ∀ a, a < 6 → ∀ b, b < 6 → a ≠ b → (TX7 a).2.1 ≠ (TX7 b).2.1 := by decide +kernel
theorem tyX7_ok : ∀ k, k < 6 → parseFieldDescriptor (TX7 k).2.2.1 = some (tyX7 k) := by decide +kernel
abbrev cX7_init : ByteArray := prog_9_method_1_code
def yX7_init : MethodName := ⟨RX7, "<init>", "()V"⟩
abbrev cX7_makeFirstVillage : ByteArray := prog_9_method_2_code
def yX7_makeFirstVillage : MethodName := ⟨RX7, "makeFirstVillage", "()V"⟩
abbrev cX7_clear : ByteArray := prog_9_method_3_code
def yX7_clear : MethodName := ⟨RX7, "clear", "()V"⟩
abbrev cX7_copyFrom : ByteArray := prog_9_method_4_code
def yX7_copyFrom : MethodName := ⟨RX7, "copyFrom", "(LStickVotes$Setup;)V"⟩
abbrev cX7_boats : ByteArray := prog_9_method_5_code
def yX7_boats : MethodName := ⟨RX7, "boats", "()I"⟩
abbrev cX7_people : ByteArray := prog_9_method_6_code
def yX7_people : MethodName := ⟨RX7, "people", "()I"⟩
abbrev cX7_numberOf : ByteArray := prog_9_method_7_code
def yX7_numberOf : MethodName := ⟨RX7, "numberOf", "(I)I"⟩
abbrev cX7_setNumber : ByteArray := prog_9_method_8_code
def yX7_setNumber : MethodName := ⟨RX7, "setNumber", "(II)V"⟩
abbrev cX7_addBoat : ByteArray := prog_9_method_9_code
def yX7_addBoat : MethodName := ⟨RX7, "addBoat", "(I)V"⟩
abbrev cX7_addPerson : ByteArray := prog_9_method_10_code
def yX7_addPerson : MethodName := ⟨RX7, "addPerson", "(II)V"⟩
abbrev cX7_boatName : ByteArray := prog_9_method_11_code
def yX7_boatName : MethodName := ⟨RX7, "boatName", "(I)I"⟩
abbrev cX7_personName : ByteArray := prog_9_method_12_code
def yX7_personName : MethodName := ⟨RX7, "personName", "(I)I"⟩
abbrev cX7_firstBoatOf : ByteArray := prog_9_method_13_code
def yX7_firstBoatOf : MethodName := ⟨RX7, "firstBoatOf", "(I)I"⟩
abbrev cX7_boatNamed : ByteArray := prog_9_method_14_code
def yX7_boatNamed : MethodName := ⟨RX7, "boatNamed", "(I)I"⟩
abbrev cX7_personNamed : ByteArray := prog_9_method_15_code
def yX7_personNamed : MethodName := ⟨RX7, "personNamed", "(I)I"⟩
abbrev cX7_find : ByteArray := prog_9_method_16_code
def yX7_find : MethodName := ⟨RX7, "find", "([III)I"⟩
abbrev cX7_isName : ByteArray := prog_9_method_17_code
def yX7_isName : MethodName := ⟨RX7, "isName", "(I)Z"⟩
def RX8 : String := "StickVotes$State"
def TX8 : u_T := fun k => match k with
  | 0 => ("StickVotes$State", "fleet", "LStickVotes$Fleet;", true)
  | 1 => ("StickVotes$State", "sticks", "LStickVotes$Sticks;", true)
  | 2 => ("StickVotes$State", "past", "LStickVotes$Ring;", true)
  | 3 => ("StickVotes$State", "log", "LStickVotes$Ring;", true)
  | 4 => ("StickVotes$State", "day", "I", false)
  | 5 => ("StickVotes$State", "votes", "I", false)
  | 6 => ("StickVotes$State", "isOpen", "Z", false)
  | 7 => ("StickVotes$State", "baskets", "I", false)
  | 8 => ("StickVotes$State", "lays", "I", false)
  | 9 => ("StickVotes$State", "recounts", "I", false)
  | 10 => ("StickVotes$State", "fixedNeed", "I", false)
  | _ => ("StickVotes$State", "closedOn", "I", false)
def tyX8 : Nat → FieldType := fun k => match k with
  | 0 => .object "StickVotes$Fleet"
  | 1 => .object "StickVotes$Sticks"
  | 2 => .object "StickVotes$Ring"
  | 3 => .object "StickVotes$Ring"
  | 4 => .int
  | 5 => .int
  | 6 => .boolean
  | 7 => .int
  | 8 => .int
  | 9 => .int
  | 10 => .int
  | _ => .int
theorem nmX8 : ∀ a, a < 12 → ∀ b, b < 12 → a ≠ b → (TX8 a).2.1 ≠ (TX8 b).2.1 := by decide +kernel
theorem tyX8_ok : ∀ k, k < 12 → parseFieldDescriptor (TX8 k).2.2.1 = some (tyX8 k) := by decide +kernel
abbrev cX8_init : ByteArray := prog_10_method_1_code
def yX8_init : MethodName := ⟨RX8, "<init>", "()V"⟩
abbrev cX8_begin : ByteArray := prog_10_method_2_code
def yX8_begin : MethodName := ⟨RX8, "begin", "(LStickVotes$Setup;)V"⟩
abbrev cX8_beginVote : ByteArray := prog_10_method_3_code
def yX8_beginVote : MethodName := ⟨RX8, "beginVote", "(I)V"⟩
abbrev cX8_copyFrom : ByteArray := prog_10_method_4_code
def yX8_copyFrom : MethodName := ⟨RX8, "copyFrom", "(LStickVotes$State;)V"⟩
def RX9 : String := "StickVotes$Sticks"
def TX9 : u_T := fun k => match k with
  | 0 => ("StickVotes$Sticks", "place", "[I", true)
  | 1 => ("StickVotes$Sticks", "carrier", "[I", true)
  | 2 => ("StickVotes$Sticks", "bound", "[I", true)
  | 3 => ("StickVotes$Sticks", "basket", "[I", true)
  | 4 => ("StickVotes$Sticks", "day", "[I", true)
  | _ => ("StickVotes$Sticks", "reason", "[I", true)
def tyX9 : Nat → FieldType := fun k => match k with
  | 0 => .array .int
  | 1 => .array .int
  | 2 => .array .int
  | 3 => .array .int
  | 4 => .array .int
  | _ => .array .int
theorem nmX9 : ∀ a, a < 6 → ∀ b, b < 6 → a ≠ b → (TX9 a).2.1 ≠ (TX9 b).2.1 := by decide +kernel
theorem tyX9_ok : ∀ k, k < 6 → parseFieldDescriptor (TX9 k).2.2.1 = some (tyX9 k) := by decide +kernel
abbrev cX9_init : ByteArray := prog_11_method_1_code
def yX9_init : MethodName := ⟨RX9, "<init>", "()V"⟩
abbrev cX9_begin : ByteArray := prog_11_method_2_code
def yX9_begin : MethodName := ⟨RX9, "begin", "()V"⟩
abbrev cX9_copyFrom : ByteArray := prog_11_method_3_code
def yX9_copyFrom : MethodName := ⟨RX9, "copyFrom", "(LStickVotes$Sticks;)V"⟩
abbrev cX9_placeOf : ByteArray := prog_11_method_4_code
def yX9_placeOf : MethodName := ⟨RX9, "placeOf", "(I)I"⟩
abbrev cX9_carrierOf : ByteArray := prog_11_method_5_code
def yX9_carrierOf : MethodName := ⟨RX9, "carrierOf", "(I)I"⟩
abbrev cX9_boundTo : ByteArray := prog_11_method_6_code
def yX9_boundTo : MethodName := ⟨RX9, "boundTo", "(I)I"⟩
abbrev cX9_basketOf : ByteArray := prog_11_method_7_code
def yX9_basketOf : MethodName := ⟨RX9, "basketOf", "(I)I"⟩
abbrev cX9_dayOf : ByteArray := prog_11_method_8_code
def yX9_dayOf : MethodName := ⟨RX9, "dayOf", "(I)I"⟩
abbrev cX9_reasonOf : ByteArray := prog_11_method_9_code
def yX9_reasonOf : MethodName := ⟨RX9, "reasonOf", "(I)I"⟩
abbrev cX9_isHadBy : ByteArray := prog_11_method_10_code
def yX9_isHadBy : MethodName := ⟨RX9, "isHadBy", "(II)Z"⟩
abbrev cX9_isWrong : ByteArray := prog_11_method_11_code
def yX9_isWrong : MethodName := ⟨RX9, "isWrong", "(I)Z"⟩
abbrev cX9_handTo : ByteArray := prog_11_method_12_code
def yX9_handTo : MethodName := ⟨RX9, "handTo", "(III)V"⟩
abbrev cX9_handBack : ByteArray := prog_11_method_13_code
def yX9_handBack : MethodName := ⟨RX9, "handBack", "(I)V"⟩
abbrev cX9_putInto : ByteArray := prog_11_method_14_code
def yX9_putInto : MethodName := ⟨RX9, "putInto", "(IIII)V"⟩
abbrev cX9_strike : ByteArray := prog_11_method_15_code
def yX9_strike : MethodName := ⟨RX9, "strike", "(I)V"⟩
abbrev cX9_takeOut : ByteArray := prog_11_method_16_code
def yX9_takeOut : MethodName := ⟨RX9, "takeOut", "()V"⟩
abbrev cX9_countIn : ByteArray := prog_11_method_17_code
def yX9_countIn : MethodName := ⟨RX9, "countIn", "(I)I"⟩
abbrev cX9_turnout : ByteArray := prog_11_method_18_code
def yX9_turnout : MethodName := ⟨RX9, "turnout", "()I"⟩
abbrev cX9_struckOnes : ByteArray := prog_11_method_19_code
def yX9_struckOnes : MethodName := ⟨RX9, "struckOnes", "()I"⟩
abbrev cX9_countAt : ByteArray := prog_11_method_20_code
def yX9_countAt : MethodName := ⟨RX9, "countAt", "(I)I"⟩
abbrev cX9_laidForOthers : ByteArray := prog_11_method_21_code
def yX9_laidForOthers : MethodName := ⟨RX9, "laidForOthers", "(I)I"⟩
abbrev cX9_maskIn : ByteArray := prog_11_method_22_code
def yX9_maskIn : MethodName := ⟨RX9, "maskIn", "(I)I"⟩
abbrev cX9_carriedBy : ByteArray := prog_11_method_23_code
def yX9_carriedBy : MethodName := ⟨RX9, "carriedBy", "(I)I"⟩
abbrev cX9_wrongMask : ByteArray := prog_11_method_24_code
def yX9_wrongMask : MethodName := ⟨RX9, "wrongMask", "()I"⟩
def RX10 : String := "StickVotes$Village"
def TX10 : u_T := fun k => match k with
  | 0 => ("StickVotes$Village", "setup", "LStickVotes$Setup;", true)
  | 1 => ("StickVotes$Village", "now", "LStickVotes$State;", true)
  | _ => ("StickVotes$Village", "ballot", "LStickVotes$Ballot;", true)
def tyX10 : Nat → FieldType := fun k => match k with
  | 0 => .object "StickVotes$Setup"
  | 1 => .object "StickVotes$State"
  | _ => .object "StickVotes$Ballot"
theorem nmX10 : ∀ a, a < 3 → ∀ b, b < 3 → a ≠ b → (TX10 a).2.1 ≠ (TX10 b).2.1 := by decide +kernel
theorem tyX10_ok : ∀ k, k < 3 → parseFieldDescriptor (TX10 k).2.2.1 = some (tyX10 k) := by decide +kernel
abbrev cX10_init : ByteArray := prog_12_method_1_code
def yX10_init : MethodName := ⟨RX10, "<init>", "()V"⟩
abbrev cX10_beginTheFirstOne : ByteArray := prog_12_method_2_code
def yX10_beginTheFirstOne : MethodName := ⟨RX10, "beginTheFirstOne", "()V"⟩
abbrev cX10_beginAnew : ByteArray := prog_12_method_3_code
def yX10_beginAnew : MethodName := ⟨RX10, "beginAnew", "(LStickVotes$Setup;)V"⟩
abbrev cX10_setOut : ByteArray := prog_12_method_4_code
def yX10_setOut : MethodName := ⟨RX10, "setOut", "(II)I"⟩
abbrev cX10_bringHome : ByteArray := prog_12_method_5_code
def yX10_bringHome : MethodName := ⟨RX10, "bringHome", "(I)I"⟩
abbrev cX10_letDaysPass : ByteArray := prog_12_method_6_code
def yX10_letDaysPass : MethodName := ⟨RX10, "letDaysPass", "(I)I"⟩
abbrev cX10_bringHomeTodays : ByteArray := prog_12_method_7_code
def yX10_bringHomeTodays : MethodName := ⟨RX10, "bringHomeTodays", "()I"⟩
abbrev cX10_beginVote : ByteArray := prog_12_method_8_code
def yX10_beginVote : MethodName := ⟨RX10, "beginVote", "(I)I"⟩
abbrev cX10_putIntoBasket : ByteArray := prog_12_method_9_code
def yX10_putIntoBasket : MethodName := ⟨RX10, "putIntoBasket", "(III)I"⟩
abbrev cX10_judge : ByteArray := prog_12_method_10_code
def yX10_judge : MethodName := ⟨RX10, "judge", "(II)I"⟩
abbrev cX10_strikeAllWrong : ByteArray := prog_12_method_11_code
def yX10_strikeAllWrong : MethodName := ⟨RX10, "strikeAllWrong", "()I"⟩
abbrev cX10_strike : ByteArray := prog_12_method_12_code
def yX10_strike : MethodName := ⟨RX10, "strike", "(I)V"⟩
abbrev cX10_correctResult : ByteArray := prog_12_method_13_code
def yX10_correctResult : MethodName := ⟨RX10, "correctResult", "(I)V"⟩
abbrev cX10_endVote : ByteArray := prog_12_method_14_code
def yX10_endVote : MethodName := ⟨RX10, "endVote", "()I"⟩
abbrev cX10_inLog : ByteArray := prog_12_method_15_code
def yX10_inLog : MethodName := ⟨RX10, "inLog", "(I)I"⟩
abbrev cX10_latestVote : ByteArray := prog_12_method_16_code
def yX10_latestVote : MethodName := ⟨RX10, "latestVote", "()I"⟩
abbrev cX10_isVoteOpen : ByteArray := prog_12_method_17_code
def yX10_isVoteOpen : MethodName := ⟨RX10, "isVoteOpen", "()Z"⟩
abbrev cX10_stateOfVote : ByteArray := prog_12_method_18_code
def yX10_stateOfVote : MethodName := ⟨RX10, "stateOfVote", "()I"⟩
abbrev cX10_seasonOn : ByteArray := prog_12_method_19_code
def yX10_seasonOn : MethodName := ⟨RX10, "seasonOn", "(I)I"⟩
abbrev cX10_homeDayOf : ByteArray := prog_12_method_20_code
def yX10_homeDayOf : MethodName := ⟨RX10, "homeDayOf", "(I)I"⟩
abbrev cX10_needOf : ByteArray := prog_12_method_21_code
def yX10_needOf : MethodName := ⟨RX10, "needOf", "(II)I"⟩
abbrev cX10_needBehind : ByteArray := prog_12_method_22_code
def yX10_needBehind : MethodName := ⟨RX10, "needBehind", "(I)I"⟩
abbrev cX10_needOfVote : ByteArray := prog_12_method_23_code
def yX10_needOfVote : MethodName := ⟨RX10, "needOfVote", "()I"⟩
abbrev cX10_bestDayUpTo : ByteArray := prog_12_method_24_code
def yX10_bestDayUpTo : MethodName := ⟨RX10, "bestDayUpTo", "(I)I"⟩
abbrev cX10_surplusBehind : ByteArray := prog_12_method_25_code
def yX10_surplusBehind : MethodName := ⟨RX10, "surplusBehind", "(I)I"⟩
abbrev cX10_reasonFor : ByteArray := prog_12_method_26_code
def yX10_reasonFor : MethodName := ⟨RX10, "reasonFor", "(III)I"⟩
abbrev cX10_resultNow : ByteArray := prog_12_method_27_code
def yX10_resultNow : MethodName := ⟨RX10, "resultNow", "()I"⟩
abbrev cX10_resultFor : ByteArray := prog_12_method_28_code
def yX10_resultFor : MethodName := ⟨RX10, "resultFor", "(I)I"⟩
abbrev cX10_resultOfRightOnes : ByteArray := prog_12_method_29_code
def yX10_resultOfRightOnes : MethodName := ⟨RX10, "resultOfRightOnes", "()I"⟩
abbrev cX10_resultWithAllInto : ByteArray := prog_12_method_30_code
def yX10_resultWithAllInto : MethodName := ⟨RX10, "resultWithAllInto", "(I)I"⟩
abbrev cX10_canBeLaid : ByteArray := prog_12_method_31_code
def yX10_canBeLaid : MethodName := ⟨RX10, "canBeLaid", "(I)Z"⟩
abbrev cX10_decidingSticks : ByteArray := prog_12_method_32_code
def yX10_decidingSticks : MethodName := ⟨RX10, "decidingSticks", "()I"⟩
abbrev cX10_mightiestCarrier : ByteArray := prog_12_method_33_code
def yX10_mightiestCarrier : MethodName := ⟨RX10, "mightiestCarrier", "()I"⟩
abbrev cX10_mightOf : ByteArray := prog_12_method_34_code
def yX10_mightOf : MethodName := ⟨RX10, "mightOf", "(I)I"⟩
def RX11 : String := "StickVotes"
def TX11 : u_T := fun k => match k with
  | 0 => ("StickVotes", "parser", "LStickVotes$Parser;", true)
  | 1 => ("StickVotes", "tape", "LStickVotes$Bytes;", true)
  | 2 => ("StickVotes", "village", "LStickVotes$Village;", true)
  | 3 => ("StickVotes", "setup", "LStickVotes$Setup;", true)
  | 4 => ("StickVotes", "now", "LStickVotes$State;", true)
  | 5 => ("StickVotes", "history", "LStickVotes$History;", true)
  | 6 => ("StickVotes", "kept", "[LStickVotes$State;", true)
  | 7 => ("StickVotes", "isKept", "[Z", true)
  | 8 => ("StickVotes", "scribe", "LStickVotes$Scribe;", true)
  | _ => ("StickVotes", "errorAt", "I", false)
def tyX11 : Nat → FieldType := fun k => match k with
  | 0 => .object "StickVotes$Parser"
  | 1 => .object "StickVotes$Bytes"
  | 2 => .object "StickVotes$Village"
  | 3 => .object "StickVotes$Setup"
  | 4 => .object "StickVotes$State"
  | 5 => .object "StickVotes$History"
  | 6 => .array (.object "StickVotes$State")
  | 7 => .array .boolean
  | 8 => .object "StickVotes$Scribe"
  | _ => .int
theorem nmX11 : ∀ a, a < 10 → ∀ b, b < 10 → a ≠ b → (TX11 a).2.1 ≠ (TX11 b).2.1 := by decide +kernel
theorem tyX11_ok : ∀ k, k < 10 → parseFieldDescriptor (TX11 k).2.2.1 = some (tyX11 k) := by decide +kernel
abbrev cX11_init : ByteArray := prog_1_method_1_code
def yX11_init : MethodName := ⟨RX11, "<init>", "()V"⟩
abbrev cX11_append : ByteArray := prog_1_method_2_code
def yX11_append : MethodName := ⟨RX11, "append", "(IIIII)I"⟩
abbrev cX11_truncate : ByteArray := prog_1_method_3_code
def yX11_truncate : MethodName := ⟨RX11, "truncate", "(I)I"⟩
abbrev cX11_load : ByteArray := prog_1_method_4_code
def yX11_load : MethodName := ⟨RX11, "load", "()I"⟩
abbrev cX11_errorPosition : ByteArray := prog_1_method_5_code
def yX11_errorPosition : MethodName := ⟨RX11, "errorPosition", "()I"⟩
abbrev cX11_sail : ByteArray := prog_1_method_6_code
def yX11_sail : MethodName := ⟨RX11, "sail", "(II)I"⟩
abbrev cX11_delay : ByteArray := prog_1_method_7_code
def yX11_delay : MethodName := ⟨RX11, "delay", "(II)I"⟩
abbrev cX11_comeHome : ByteArray := prog_1_method_8_code
def yX11_comeHome : MethodName := ⟨RX11, "comeHome", "(I)I"⟩
abbrev cX11_join : ByteArray := prog_1_method_9_code
def yX11_join : MethodName := ⟨RX11, "join", "(II)I"⟩
abbrev cX11_open : ByteArray := prog_1_method_10_code
def yX11_open : MethodName := ⟨RX11, "open", "(I)I"⟩
abbrev cX11_give : ByteArray := prog_1_method_11_code
def yX11_give : MethodName := ⟨RX11, "give", "(III)I"⟩
abbrev cX11_takeBack : ByteArray := prog_1_method_12_code
def yX11_takeBack : MethodName := ⟨RX11, "takeBack", "(I)I"⟩
abbrev cX11_lay : ByteArray := prog_1_method_13_code
def yX11_lay : MethodName := ⟨RX11, "lay", "(III)I"⟩
abbrev cX11_contest : ByteArray := prog_1_method_14_code
def yX11_contest : MethodName := ⟨RX11, "contest", "(II)I"⟩
abbrev cX11_close : ByteArray := prog_1_method_15_code
def yX11_close : MethodName := ⟨RX11, "close", "()I"⟩
abbrev cX11_recount : ByteArray := prog_1_method_16_code
def yX11_recount : MethodName := ⟨RX11, "recount", "()I"⟩
abbrev cX11_pass : ByteArray := prog_1_method_17_code
def yX11_pass : MethodName := ⟨RX11, "pass", "(I)I"⟩
abbrev cX11_keep : ByteArray := prog_1_method_18_code
def yX11_keep : MethodName := ⟨RX11, "keep", "(I)I"⟩
abbrev cX11_restore : ByteArray := prog_1_method_19_code
def yX11_restore : MethodName := ⟨RX11, "restore", "(I)I"⟩
abbrev cX11_undo : ByteArray := prog_1_method_20_code
def yX11_undo : MethodName := ⟨RX11, "undo", "()I"⟩
abbrev cX11_value : ByteArray := prog_1_method_21_code
def yX11_value : MethodName := ⟨RX11, "value", "(I)I"⟩
abbrev cX11_person : ByteArray := prog_1_method_22_code
def yX11_person : MethodName := ⟨RX11, "person", "(II)I"⟩
abbrev cX11_boat : ByteArray := prog_1_method_23_code
def yX11_boat : MethodName := ⟨RX11, "boat", "(II)I"⟩
abbrev cX11_stick : ByteArray := prog_1_method_24_code
def yX11_stick : MethodName := ⟨RX11, "stick", "(II)I"⟩
abbrev cX11_basket : ByteArray := prog_1_method_25_code
def yX11_basket : MethodName := ⟨RX11, "basket", "(I)I"⟩
abbrev cX11_number : ByteArray := prog_1_method_26_code
def yX11_number : MethodName := ⟨RX11, "number", "(I)I"⟩
abbrev cX11_past : ByteArray := prog_1_method_27_code
def yX11_past : MethodName := ⟨RX11, "past", "(II)I"⟩
abbrev cX11_log : ByteArray := prog_1_method_28_code
def yX11_log : MethodName := ⟨RX11, "log", "(II)I"⟩
abbrev cX11_named : ByteArray := prog_1_method_29_code
def yX11_named : MethodName := ⟨RX11, "named", "(IZ)I"⟩
abbrev cX11_owners : ByteArray := prog_1_method_30_code
def yX11_owners : MethodName := ⟨RX11, "owners", "(I)I"⟩
abbrev cX11_carries : ByteArray := prog_1_method_31_code
def yX11_carries : MethodName := ⟨RX11, "carries", "(I)I"⟩
abbrev cX11_wrongOnes : ByteArray := prog_1_method_32_code
def yX11_wrongOnes : MethodName := ⟨RX11, "wrongOnes", "()I"⟩
abbrev cX11_why : ByteArray := prog_1_method_33_code
def yX11_why : MethodName := ⟨RX11, "why", "(III)I"⟩
abbrev cX11_needIfHome : ByteArray := prog_1_method_34_code
def yX11_needIfHome : MethodName := ⟨RX11, "needIfHome", "(I)I"⟩
abbrev cX11_leads : ByteArray := prog_1_method_35_code
def yX11_leads : MethodName := ⟨RX11, "leads", "()I"⟩
abbrev cX11_truly : ByteArray := prog_1_method_36_code
def yX11_truly : MethodName := ⟨RX11, "truly", "()I"⟩
abbrev cX11_canWin : ByteArray := prog_1_method_37_code
def yX11_canWin : MethodName := ⟨RX11, "canWin", "(I)Z"⟩
abbrev cX11_decisive : ByteArray := prog_1_method_38_code
def yX11_decisive : MethodName := ⟨RX11, "decisive", "()I"⟩
abbrev cX11_lacks : ByteArray := prog_1_method_39_code
def yX11_lacks : MethodName := ⟨RX11, "lacks", "()I"⟩
abbrev cX11_needIn : ByteArray := prog_1_method_40_code
def yX11_needIn : MethodName := ⟨RX11, "needIn", "(I)I"⟩
abbrev cX11_bestDay : ByteArray := prog_1_method_41_code
def yX11_bestDay : MethodName := ⟨RX11, "bestDay", "(I)I"⟩
abbrev cX11_mightiest : ByteArray := prog_1_method_42_code
def yX11_mightiest : MethodName := ⟨RX11, "mightiest", "()I"⟩
abbrev cX11_agrees : ByteArray := prog_1_method_43_code
def yX11_agrees : MethodName := ⟨RX11, "agrees", "()Z"⟩
abbrev cX11_share : ByteArray := prog_1_method_44_code
def yX11_share : MethodName := ⟨RX11, "share", "(I)F"⟩
abbrev cX11_seafaring : ByteArray := prog_1_method_45_code
def yX11_seafaring : MethodName := ⟨RX11, "seafaring", "()D"⟩
abbrev cX11_viewLength : ByteArray := prog_1_method_46_code
def yX11_viewLength : MethodName := ⟨RX11, "viewLength", "()I"⟩
abbrev cX11_viewByte : ByteArray := prog_1_method_47_code
def yX11_viewByte : MethodName := ⟨RX11, "viewByte", "(I)I"⟩
abbrev cX11_storyLength : ByteArray := prog_1_method_48_code
def yX11_storyLength : MethodName := ⟨RX11, "storyLength", "()I"⟩
abbrev cX11_storyByte : ByteArray := prog_1_method_49_code
def yX11_storyByte : MethodName := ⟨RX11, "storyByte", "(I)I"⟩
abbrev cX11_setupLength : ByteArray := prog_1_method_50_code
def yX11_setupLength : MethodName := ⟨RX11, "setupLength", "()I"⟩
abbrev cX11_setupByte : ByteArray := prog_1_method_51_code
def yX11_setupByte : MethodName := ⟨RX11, "setupByte", "(I)I"⟩
abbrev cX11_tapeLength : ByteArray := prog_1_method_52_code
def yX11_tapeLength : MethodName := ⟨RX11, "tapeLength", "()I"⟩
abbrev cX11_isIn : ByteArray := prog_1_method_53_code
def yX11_isIn : MethodName := ⟨RX11, "isIn", "(II)Z"⟩
abbrev cX11_isDays : ByteArray := prog_1_method_54_code
def yX11_isDays : MethodName := ⟨RX11, "isDays", "(I)Z"⟩
abbrev cX11_isBasket : ByteArray := prog_1_method_55_code
def yX11_isBasket : MethodName := ⟨RX11, "isBasket", "(I)Z"⟩
abbrev cX11_isPerson : ByteArray := prog_1_method_56_code
def yX11_isPerson : MethodName := ⟨RX11, "isPerson", "(I)Z"⟩
abbrev cX11_isBoat : ByteArray := prog_1_method_57_code
def yX11_isBoat : MethodName := ⟨RX11, "isBoat", "(I)Z"⟩
abbrev cX11_isSlot : ByteArray := prog_1_method_58_code
def yX11_isSlot : MethodName := ⟨RX11, "isSlot", "(I)Z"⟩
abbrev cX11_refusalToLay : ByteArray := prog_1_method_59_code
def yX11_refusalToLay : MethodName := ⟨RX11, "refusalToLay", "(III)I"⟩
abbrev cX11_copyRow : ByteArray := prog_1_method_60_code
def yX11_copyRow : MethodName := ⟨RX11, "copyRow", "([I[I)V"⟩
abbrev cX11_fillRow : ByteArray := prog_1_method_61_code
def yX11_fillRow : MethodName := ⟨RX11, "fillRow", "([II)V"⟩
abbrev cX11_cell : ByteArray := prog_1_method_62_code
def yX11_cell : MethodName := ⟨RX11, "cell", "([III)I"⟩
abbrev cX11_setCell : ByteArray := prog_1_method_63_code
def yX11_setCell : MethodName := ⟨RX11, "setCell", "([III)V"⟩
def RX12 : String := "StickVotesModel"
def TX12 : u_T := fun k => match k with
  | 0 => ("StickVotesModel", "tape", "[B", true)
  | 1 => ("StickVotesModel", "taped", "I", false)
  | 2 => ("StickVotesModel", "errorAt", "I", false)
  | 3 => ("StickVotesModel", "numbers", "[I", true)
  | 4 => ("StickVotesModel", "people", "I", false)
  | 5 => ("StickVotesModel", "boats", "I", false)
  | 6 => ("StickVotesModel", "names", "[I", true)
  | 7 => ("StickVotesModel", "firstBoat", "[I", true)
  | 8 => ("StickVotesModel", "boatNames", "[I", true)
  | 9 => ("StickVotesModel", "world", "[I", true)
  | 10 => ("StickVotesModel", "undone", "[I", true)
  | 11 => ("StickVotesModel", "slots", "[I", true)
  | 12 => ("StickVotesModel", "isKept", "[Z", true)
  | 13 => ("StickVotesModel", "undos", "I", false)
  | 14 => ("StickVotesModel", "readAt", "I", false)
  | 15 => ("StickVotesModel", "start", "I", false)
  | 16 => ("StickVotesModel", "kind", "I", false)
  | 17 => ("StickVotesModel", "word", "J", false)
  | 18 => ("StickVotesModel", "value", "I", false)
  | 19 => ("StickVotesModel", "letters", "I", false)
  | 20 => ("StickVotesModel", "fine", "Z", false)
  | 21 => ("StickVotesModel", "newPeople", "I", false)
  | 22 => ("StickVotesModel", "newBoats", "I", false)
  | 23 => ("StickVotesModel", "newNumbers", "[I", true)
  | 24 => ("StickVotesModel", "newNames", "[I", true)
  | 25 => ("StickVotesModel", "newBoatOf", "[I", true)
  | 26 => ("StickVotesModel", "newBoatNames", "[I", true)
  | 27 => ("StickVotesModel", "outs", "I", false)
  | 28 => ("StickVotesModel", "wantedAt", "I", false)
  | _ => ("StickVotesModel", "foundByte", "I", false)
def tyX12 : Nat → FieldType := fun k => match k with
  | 0 => .array .byte
  | 1 => .int
  | 2 => .int
  | 3 => .array .int
  | 4 => .int
  | 5 => .int
  | 6 => .array .int
  | 7 => .array .int
  | 8 => .array .int
  | 9 => .array .int
  | 10 => .array .int
  | 11 => .array .int
  | 12 => .array .boolean
  | 13 => .int
  | 14 => .int
  | 15 => .int
  | 16 => .int
  | 17 => .long
  | 18 => .int
  | 19 => .int
  | 20 => .boolean
  | 21 => .int
  | 22 => .int
  | 23 => .array .int
  | 24 => .array .int
  | 25 => .array .int
  | 26 => .array .int
  | 27 => .int
  | 28 => .int
  | _ => .int
theorem nmX12 : ∀ a, a < 30 → ∀ b, b < 30 → a ≠ b → (TX12 a).2.1 ≠ (TX12 b).2.1 := by decide +kernel
theorem tyX12_ok : ∀ k, k < 30 → parseFieldDescriptor (TX12 k).2.2.1 = some (tyX12 k) := by decide +kernel
abbrev cX12_init : ByteArray := prog_14_method_1_code
def yX12_init : MethodName := ⟨RX12, "<init>", "()V"⟩
abbrev cX12_in : ByteArray := prog_14_method_2_code
def yX12_in : MethodName := ⟨RX12, "in", "(JJJ)Z"⟩
abbrev cX12_clear : ByteArray := prog_14_method_3_code
def yX12_clear : MethodName := ⟨RX12, "clear", "()V"⟩
abbrev cX12_of : ByteArray := prog_14_method_4_code
def yX12_of : MethodName := ⟨RX12, "of", "(II)I"⟩
abbrev cX12_sets : ByteArray := prog_14_method_5_code
def yX12_sets : MethodName := ⟨RX12, "sets", "(III)V"⟩
abbrev cX12_ofBoat : ByteArray := prog_14_method_6_code
def yX12_ofBoat : MethodName := ⟨RX12, "ofBoat", "(II)I"⟩
abbrev cX12_setsBoat : ByteArray := prog_14_method_7_code
def yX12_setsBoat : MethodName := ⟨RX12, "setsBoat", "(III)V"⟩
abbrev cX12_isPerson : ByteArray := prog_14_method_8_code
def yX12_isPerson : MethodName := ⟨RX12, "isPerson", "(I)Z"⟩
abbrev cX12_isBoat : ByteArray := prog_14_method_9_code
def yX12_isBoat : MethodName := ⟨RX12, "isBoat", "(I)Z"⟩
abbrev cX12_isBasket : ByteArray := prog_14_method_10_code
def yX12_isBasket : MethodName := ⟨RX12, "isBasket", "(I)Z"⟩
abbrev cX12_isAtSea : ByteArray := prog_14_method_11_code
def yX12_isAtSea : MethodName := ⟨RX12, "isAtSea", "(I)Z"⟩
abbrev cX12_isOut : ByteArray := prog_14_method_12_code
def yX12_isOut : MethodName := ⟨RX12, "isOut", "(I)Z"⟩
abbrev cX12_isOpen : ByteArray := prog_14_method_13_code
def yX12_isOpen : MethodName := ⟨RX12, "isOpen", "()Z"⟩
abbrev cX12_tells : ByteArray := prog_14_method_14_code
def yX12_tells : MethodName := ⟨RX12, "tells", "(III)V"⟩
abbrev cX12_isLaidNoMore : ByteArray := prog_14_method_15_code
def yX12_isLaidNoMore : MethodName := ⟨RX12, "isLaidNoMore", "(I)V"⟩
abbrev cX12_atHand : ByteArray := prog_14_method_16_code
def yX12_atHand : MethodName := ⟨RX12, "atHand", "(I)V"⟩
abbrev cX12_isLaid : ByteArray := prog_14_method_17_code
def yX12_isLaid : MethodName := ⟨RX12, "isLaid", "(I)Z"⟩
abbrev cX12_carriedBy : ByteArray := prog_14_method_18_code
def yX12_carriedBy : MethodName := ⟨RX12, "carriedBy", "(I)I"⟩
abbrev cX12_ones : ByteArray := prog_14_method_19_code
def yX12_ones : MethodName := ⟨RX12, "ones", "(I)I"⟩
abbrev cX12_has : ByteArray := prog_14_method_20_code
def yX12_has : MethodName := ⟨RX12, "has", "(II)Z"⟩
abbrev cX12_wrongBy : ByteArray := prog_14_method_21_code
def yX12_wrongBy : MethodName := ⟨RX12, "wrongBy", "(III)I"⟩
abbrev cX12_setIn : ByteArray := prog_14_method_22_code
def yX12_setIn : MethodName := ⟨RX12, "setIn", "(I)I"⟩
abbrev cX12_allLaid : ByteArray := prog_14_method_23_code
def yX12_allLaid : MethodName := ⟨RX12, "allLaid", "()I"⟩
abbrev cX12_turnout : ByteArray := prog_14_method_24_code
def yX12_turnout : MethodName := ⟨RX12, "turnout", "()I"⟩
abbrev cX12_wrongSet : ByteArray := prog_14_method_25_code
def yX12_wrongSet : MethodName := ⟨RX12, "wrongSet", "()I"⟩
abbrev cX12_struckMany : ByteArray := prog_14_method_26_code
def yX12_struckMany : MethodName := ⟨RX12, "struckMany", "()I"⟩
abbrev cX12_resultOf : ByteArray := prog_14_method_27_code
def yX12_resultOf : MethodName := ⟨RX12, "resultOf", "(IIII)I"⟩
abbrev cX12_needOn : ByteArray := prog_14_method_28_code
def yX12_needOn : MethodName := ⟨RX12, "needOn", "(II)I"⟩
abbrev cX12_outOn : ByteArray := prog_14_method_29_code
def yX12_outOn : MethodName := ⟨RX12, "outOn", "(I)I"⟩
abbrev cX12_needIn0 : ByteArray := prog_14_method_30_code
def yX12_needIn0 : MethodName := ⟨RX12, "needIn0", "(I)I"⟩
abbrev cX12_isClosed : ByteArray := prog_14_method_31_code
def yX12_isClosed : MethodName := ⟨RX12, "isClosed", "()Z"⟩
abbrev cX12_needNow : ByteArray := prog_14_method_32_code
def yX12_needNow : MethodName := ⟨RX12, "needNow", "()I"⟩
abbrev cX12_resultNow : ByteArray := prog_14_method_33_code
def yX12_resultNow : MethodName := ⟨RX12, "resultNow", "()I"⟩
abbrev cX12_isInTime : ByteArray := prog_14_method_34_code
def yX12_isInTime : MethodName := ⟨RX12, "isInTime", "()Z"⟩
abbrev cX12_keepsPast : ByteArray := prog_14_method_35_code
def yX12_keepsPast : MethodName := ⟨RX12, "keepsPast", "()V"⟩
abbrev cX12_orMinus : ByteArray := prog_14_method_36_code
def yX12_orMinus : MethodName := ⟨RX12, "orMinus", "(I)I"⟩
abbrev cX12_strikes : ByteArray := prog_14_method_37_code
def yX12_strikes : MethodName := ⟨RX12, "strikes", "(I)V"⟩
abbrev cX12_comesHome : ByteArray := prog_14_method_38_code
def yX12_comesHome : MethodName := ⟨RX12, "comesHome", "(I)I"⟩
abbrev cX12_passes : ByteArray := prog_14_method_39_code
def yX12_passes : MethodName := ⟨RX12, "passes", "()I"⟩
abbrev cX12_isByte : ByteArray := prog_14_method_40_code
def yX12_isByte : MethodName := ⟨RX12, "isByte", "(II)Z"⟩
abbrev cX12_isKey : ByteArray := prog_14_method_41_code
def yX12_isKey : MethodName := ⟨RX12, "isKey", "(J)Z"⟩
abbrev cX12_nextWord : ByteArray := prog_14_method_42_code
def yX12_nextWord : MethodName := ⟨RX12, "nextWord", "()V"⟩
abbrev cX12_nextInt : ByteArray := prog_14_method_43_code
def yX12_nextInt : MethodName := ⟨RX12, "nextInt", "()V"⟩
abbrev cX12_next : ByteArray := prog_14_method_44_code
def yX12_next : MethodName := ⟨RX12, "next", "()V"⟩
abbrev cX12_takes : ByteArray := prog_14_method_45_code
def yX12_takes : MethodName := ⟨RX12, "takes", "(Z)V"⟩
abbrev cX12_isWord : ByteArray := prog_14_method_46_code
def yX12_isWord : MethodName := ⟨RX12, "isWord", "(J)Z"⟩
abbrev cX12_number : ByteArray := prog_14_method_47_code
def yX12_number : MethodName := ⟨RX12, "number", "(II)I"⟩
abbrev cX12_numberOf : ByteArray := prog_14_method_48_code
def yX12_numberOf : MethodName := ⟨RX12, "numberOf", "(JII)I"⟩
abbrev cX12_readNumbers : ByteArray := prog_14_method_49_code
def yX12_readNumbers : MethodName := ⟨RX12, "readNumbers", "()V"⟩
abbrev cX12_named : ByteArray := prog_14_method_50_code
def yX12_named : MethodName := ⟨RX12, "named", "([II)I"⟩
abbrev cX12_readBoat : ByteArray := prog_14_method_51_code
def yX12_readBoat : MethodName := ⟨RX12, "readBoat", "()V"⟩
abbrev cX12_readPerson : ByteArray := prog_14_method_52_code
def yX12_readPerson : MethodName := ⟨RX12, "readPerson", "()V"⟩
abbrev cX12_readAll : ByteArray := prog_14_method_53_code
def yX12_readAll : MethodName := ⟨RX12, "readAll", "()V"⟩
abbrev cX12_append : ByteArray := prog_14_method_54_code
def yX12_append : MethodName := ⟨RX12, "append", "(IIIII)I"⟩
abbrev cX12_feeds : ByteArray := prog_14_method_55_code
def yX12_feeds : MethodName := ⟨RX12, "feeds", "(I)V"⟩
abbrev cX12_truncate : ByteArray := prog_14_method_56_code
def yX12_truncate : MethodName := ⟨RX12, "truncate", "(I)I"⟩
abbrev cX12_load : ByteArray := prog_14_method_57_code
def yX12_load : MethodName := ⟨RX12, "load", "()I"⟩
abbrev cX12_errorPosition : ByteArray := prog_14_method_58_code
def yX12_errorPosition : MethodName := ⟨RX12, "errorPosition", "()I"⟩
abbrev cX12_keeps : ByteArray := prog_14_method_59_code
def yX12_keeps : MethodName := ⟨RX12, "keeps", "()V"⟩
abbrev cX12_undo : ByteArray := prog_14_method_60_code
def yX12_undo : MethodName := ⟨RX12, "undo", "()I"⟩
abbrev cX12_sail : ByteArray := prog_14_method_61_code
def yX12_sail : MethodName := ⟨RX12, "sail", "(II)I"⟩
abbrev cX12_delay : ByteArray := prog_14_method_62_code
def yX12_delay : MethodName := ⟨RX12, "delay", "(II)I"⟩
abbrev cX12_comeHome : ByteArray := prog_14_method_63_code
def yX12_comeHome : MethodName := ⟨RX12, "comeHome", "(I)I"⟩
abbrev cX12_join : ByteArray := prog_14_method_64_code
def yX12_join : MethodName := ⟨RX12, "join", "(II)I"⟩
abbrev cX12_isBackFromVote : ByteArray := prog_14_method_65_code
def yX12_isBackFromVote : MethodName := ⟨RX12, "isBackFromVote", "(I)V"⟩
abbrev cX12_open : ByteArray := prog_14_method_66_code
def yX12_open : MethodName := ⟨RX12, "open", "(I)I"⟩
abbrev cX12_give : ByteArray := prog_14_method_67_code
def yX12_give : MethodName := ⟨RX12, "give", "(III)I"⟩
abbrev cX12_takeBack : ByteArray := prog_14_method_68_code
def yX12_takeBack : MethodName := ⟨RX12, "takeBack", "(I)I"⟩
abbrev cX12_would : ByteArray := prog_14_method_69_code
def yX12_would : MethodName := ⟨RX12, "would", "(III)I"⟩
abbrev cX12_lay : ByteArray := prog_14_method_70_code
def yX12_lay : MethodName := ⟨RX12, "lay", "(III)I"⟩
abbrev cX12_contest : ByteArray := prog_14_method_71_code
def yX12_contest : MethodName := ⟨RX12, "contest", "(II)I"⟩
abbrev cX12_close : ByteArray := prog_14_method_72_code
def yX12_close : MethodName := ⟨RX12, "close", "()I"⟩
abbrev cX12_recount : ByteArray := prog_14_method_73_code
def yX12_recount : MethodName := ⟨RX12, "recount", "()I"⟩
abbrev cX12_pass : ByteArray := prog_14_method_74_code
def yX12_pass : MethodName := ⟨RX12, "pass", "(I)I"⟩
abbrev cX12_keep : ByteArray := prog_14_method_75_code
def yX12_keep : MethodName := ⟨RX12, "keep", "(I)I"⟩
abbrev cX12_restore : ByteArray := prog_14_method_76_code
def yX12_restore : MethodName := ⟨RX12, "restore", "(I)I"⟩
abbrev cX12_atSeaMany : ByteArray := prog_14_method_77_code
def yX12_atSeaMany : MethodName := ⟨RX12, "atSeaMany", "()I"⟩
abbrev cX12_stateOf : ByteArray := prog_14_method_78_code
def yX12_stateOf : MethodName := ⟨RX12, "stateOf", "()I"⟩
abbrev cX12_value : ByteArray := prog_14_method_79_code
def yX12_value : MethodName := ⟨RX12, "value", "(I)I"⟩
abbrev cX12_person : ByteArray := prog_14_method_80_code
def yX12_person : MethodName := ⟨RX12, "person", "(II)I"⟩
abbrev cX12_manyOf : ByteArray := prog_14_method_81_code
def yX12_manyOf : MethodName := ⟨RX12, "manyOf", "(II)I"⟩
abbrev cX12_boat : ByteArray := prog_14_method_82_code
def yX12_boat : MethodName := ⟨RX12, "boat", "(II)I"⟩
abbrev cX12_stick : ByteArray := prog_14_method_83_code
def yX12_stick : MethodName := ⟨RX12, "stick", "(II)I"⟩
abbrev cX12_basket : ByteArray := prog_14_method_84_code
def yX12_basket : MethodName := ⟨RX12, "basket", "(I)I"⟩
abbrev cX12_number_ : ByteArray := prog_14_method_85_code
def yX12_number_ : MethodName := ⟨RX12, "number", "(I)I"⟩
abbrev cX12_past : ByteArray := prog_14_method_86_code
def yX12_past : MethodName := ⟨RX12, "past", "(II)I"⟩
abbrev cX12_log : ByteArray := prog_14_method_87_code
def yX12_log : MethodName := ⟨RX12, "log", "(II)I"⟩
abbrev cX12_isName : ByteArray := prog_14_method_88_code
def yX12_isName : MethodName := ⟨RX12, "isName", "(I)Z"⟩
abbrev cX12_named_ : ByteArray := prog_14_method_89_code
def yX12_named_ : MethodName := ⟨RX12, "named", "(IZ)I"⟩
abbrev cX12_owners : ByteArray := prog_14_method_90_code
def yX12_owners : MethodName := ⟨RX12, "owners", "(I)I"⟩
abbrev cX12_carries : ByteArray := prog_14_method_91_code
def yX12_carries : MethodName := ⟨RX12, "carries", "(I)I"⟩
abbrev cX12_wrongOnes : ByteArray := prog_14_method_92_code
def yX12_wrongOnes : MethodName := ⟨RX12, "wrongOnes", "()I"⟩
abbrev cX12_why : ByteArray := prog_14_method_93_code
def yX12_why : MethodName := ⟨RX12, "why", "(III)I"⟩
abbrev cX12_needIfHome : ByteArray := prog_14_method_94_code
def yX12_needIfHome : MethodName := ⟨RX12, "needIfHome", "(I)I"⟩
abbrev cX12_leads : ByteArray := prog_14_method_95_code
def yX12_leads : MethodName := ⟨RX12, "leads", "()I"⟩
abbrev cX12_truly : ByteArray := prog_14_method_96_code
def yX12_truly : MethodName := ⟨RX12, "truly", "()I"⟩
abbrev cX12_couldBeLaid : ByteArray := prog_14_method_97_code
def yX12_couldBeLaid : MethodName := ⟨RX12, "couldBeLaid", "(I)Z"⟩
abbrev cX12_canWin : ByteArray := prog_14_method_98_code
def yX12_canWin : MethodName := ⟨RX12, "canWin", "(I)Z"⟩
abbrev cX12_decisive : ByteArray := prog_14_method_99_code
def yX12_decisive : MethodName := ⟨RX12, "decisive", "()I"⟩
abbrev cX12_lacks : ByteArray := prog_14_method_100_code
def yX12_lacks : MethodName := ⟨RX12, "lacks", "()I"⟩
abbrev cX12_needIn : ByteArray := prog_14_method_101_code
def yX12_needIn : MethodName := ⟨RX12, "needIn", "(I)I"⟩
abbrev cX12_ashoreOn : ByteArray := prog_14_method_102_code
def yX12_ashoreOn : MethodName := ⟨RX12, "ashoreOn", "(I)I"⟩
abbrev cX12_bestDay : ByteArray := prog_14_method_103_code
def yX12_bestDay : MethodName := ⟨RX12, "bestDay", "(I)I"⟩
abbrev cX12_mightOf : ByteArray := prog_14_method_104_code
def yX12_mightOf : MethodName := ⟨RX12, "mightOf", "(I)I"⟩
abbrev cX12_mightiest : ByteArray := prog_14_method_105_code
def yX12_mightiest : MethodName := ⟨RX12, "mightiest", "()I"⟩
abbrev cX12_agrees : ByteArray := prog_14_method_106_code
def yX12_agrees : MethodName := ⟨RX12, "agrees", "()Z"⟩
abbrev cX12_share : ByteArray := prog_14_method_107_code
def yX12_share : MethodName := ⟨RX12, "share", "(I)F"⟩
abbrev cX12_seafaring : ByteArray := prog_14_method_108_code
def yX12_seafaring : MethodName := ⟨RX12, "seafaring", "()D"⟩
abbrev cX12_startsText : ByteArray := prog_14_method_109_code
def yX12_startsText : MethodName := ⟨RX12, "startsText", "(I)V"⟩
abbrev cX12_says : ByteArray := prog_14_method_110_code
def yX12_says : MethodName := ⟨RX12, "says", "(I)V"⟩
abbrev cX12_saysWord : ByteArray := prog_14_method_111_code
def yX12_saysWord : MethodName := ⟨RX12, "saysWord", "(J)V"⟩
abbrev cX12_saysNumber : ByteArray := prog_14_method_112_code
def yX12_saysNumber : MethodName := ⟨RX12, "saysNumber", "(I)V"⟩
abbrev cX12_saysPerson : ByteArray := prog_14_method_113_code
def yX12_saysPerson : MethodName := ⟨RX12, "saysPerson", "(I)V"⟩
abbrev cX12_saysView : ByteArray := prog_14_method_114_code
def yX12_saysView : MethodName := ⟨RX12, "saysView", "(I)V"⟩
abbrev cX12_viewLength : ByteArray := prog_14_method_115_code
def yX12_viewLength : MethodName := ⟨RX12, "viewLength", "()I"⟩
abbrev cX12_viewByte : ByteArray := prog_14_method_116_code
def yX12_viewByte : MethodName := ⟨RX12, "viewByte", "(I)I"⟩
abbrev cX12_wordOfLog : ByteArray := prog_14_method_117_code
def yX12_wordOfLog : MethodName := ⟨RX12, "wordOfLog", "(I)J"⟩
abbrev cX12_saysStory : ByteArray := prog_14_method_118_code
def yX12_saysStory : MethodName := ⟨RX12, "saysStory", "(I)V"⟩
abbrev cX12_storyLength : ByteArray := prog_14_method_119_code
def yX12_storyLength : MethodName := ⟨RX12, "storyLength", "()I"⟩
abbrev cX12_storyByte : ByteArray := prog_14_method_120_code
def yX12_storyByte : MethodName := ⟨RX12, "storyByte", "(I)I"⟩
abbrev cX12_saysPair : ByteArray := prog_14_method_121_code
def yX12_saysPair : MethodName := ⟨RX12, "saysPair", "(JII)V"⟩
abbrev cX12_saysNumbers : ByteArray := prog_14_method_122_code
def yX12_saysNumbers : MethodName := ⟨RX12, "saysNumbers", "()V"⟩
abbrev cX12_saysSetup : ByteArray := prog_14_method_123_code
def yX12_saysSetup : MethodName := ⟨RX12, "saysSetup", "(I)V"⟩
abbrev cX12_setupLength : ByteArray := prog_14_method_124_code
def yX12_setupLength : MethodName := ⟨RX12, "setupLength", "()I"⟩
abbrev cX12_setupByte : ByteArray := prog_14_method_125_code
def yX12_setupByte : MethodName := ⟨RX12, "setupByte", "(I)I"⟩
abbrev cX12_tapeLength : ByteArray := prog_14_method_126_code
def yX12_tapeLength : MethodName := ⟨RX12, "tapeLength", "()I"⟩
def RJ6 : String := "java/lang/Integer"
def TJ6 : u_T := fun k => match k with
  | _ => ("", "", "", false)
def tyJ6 : Nat → FieldType := fun k => match k with
  | _ => .int
abbrev wsJ60 : List Cond := u_ws RJ6 TJ6 0
theorem nmJ6 : ∀ a, a < 0 → ∀ b, b < 0 → a ≠ b → (TJ6 a).2.1 ≠ (TJ6 b).2.1 := by decide +kernel
theorem tyJ6_ok : ∀ k, k < 0 → parseFieldDescriptor (TJ6 k).2.2.1 = some (tyJ6 k) := by decide +kernel
abbrev cJ6_bitCount_0f7a4 : ByteArray := prog_15_method_49_code
def yJ6_bitCount_0f7a4 : MethodName := ⟨RJ6, "bitCount", "(I)I"⟩
def RJ9 : String := "java/lang/Math"
def TJ9 : u_T := fun k => match k with
  | _ => ("", "", "", false)
def tyJ9 : Nat → FieldType := fun k => match k with
  | _ => .int
abbrev wsJ90 : List Cond := u_ws RJ9 TJ9 0
theorem nmJ9 : ∀ a, a < 0 → ∀ b, b < 0 → a ≠ b → (TJ9 a).2.1 ≠ (TJ9 b).2.1 := by decide +kernel
theorem tyJ9_ok : ∀ k, k < 0 → parseFieldDescriptor (TJ9 k).2.2.1 = some (tyJ9 k) := by decide +kernel
abbrev cJ9_floorMod_7cf53 : ByteArray := prog_16_method_50_code
def yJ9_floorMod_7cf53 : MethodName := ⟨RJ9, "floorMod", "(II)I"⟩
abbrev cJ9_max_7cf53 : ByteArray := prog_16_method_65_code
def yJ9_max_7cf53 : MethodName := ⟨RJ9, "max", "(II)I"⟩
abbrev cJ9_min_7cf53 : ByteArray := prog_16_method_69_code
def yJ9_min_7cf53 : MethodName := ⟨RJ9, "min", "(II)I"⟩
def RJ0 : String := "java/lang/String"
def TJ0 : u_T := fun k => match k with
  | _ => ("", "", "", false)
def tyJ0 : Nat → FieldType := fun k => match k with
  | _ => .int
abbrev wsJ00 : List Cond := u_ws RJ0 TJ0 0
theorem nmJ0 : ∀ a, a < 0 → ∀ b, b < 0 → a ≠ b → (TJ0 a).2.1 ≠ (TJ0 b).2.1 := by decide +kernel
theorem tyJ0_ok : ∀ k, k < 0 → parseFieldDescriptor (TJ0 k).2.2.1 = some (tyJ0 k) := by decide +kernel
abbrev cJ0_length_8abf5 : ByteArray := prog_17_method_54_code
def yJ0_length_8abf5 : MethodName := ⟨RJ0, "length", "()I"⟩
abbrev cJ0_charAt_5068e : ByteArray := prog_17_method_56_code
def yJ0_charAt_5068e : MethodName := ⟨RJ0, "charAt", "(I)C"⟩
abbrev cJ0_coder_7d493 : ByteArray := prog_17_method_152_code
def yJ0_coder_7d493 : MethodName := ⟨RJ0, "coder", "()B"⟩
abbrev cJ0_isLatin1_aae02 : ByteArray := prog_17_method_154_code
def yJ0_isLatin1_aae02 : MethodName := ⟨RJ0, "isLatin1", "()Z"⟩
abbrev cJ0_checkIndex_df160 : ByteArray := prog_17_method_155_code
def yJ0_checkIndex_df160 : MethodName := ⟨RJ0, "checkIndex", "(II)V"⟩
def RJ1 : String := "java/lang/StringLatin1"
def TJ1 : u_T := fun k => match k with
  | _ => ("", "", "", false)
def tyJ1 : Nat → FieldType := fun k => match k with
  | _ => .int
abbrev wsJ10 : List Cond := u_ws RJ1 TJ1 0
theorem nmJ1 : ∀ a, a < 0 → ∀ b, b < 0 → a ≠ b → (TJ1 a).2.1 ≠ (TJ1 b).2.1 := by decide +kernel
theorem tyJ1_ok : ∀ k, k < 0 → parseFieldDescriptor (TJ1 k).2.2.1 = some (tyJ1 k) := by decide +kernel
abbrev cJ1_charAt_3b067 : ByteArray := prog_18_method_2_code
def yJ1_charAt_3b067 : MethodName := ⟨RJ1, "charAt", "([BI)C"⟩
def RJ2 : String := "java/lang/StringUTF16"
def TJ2 : u_T := fun k => match k with
  | _ => ("", "", "", false)
def tyJ2 : Nat → FieldType := fun k => match k with
  | _ => .int
abbrev wsJ20 : List Cond := u_ws RJ2 TJ2 0
theorem nmJ2 : ∀ a, a < 0 → ∀ b, b < 0 → a ≠ b → (TJ2 a).2.1 ≠ (TJ2 b).2.1 := by decide +kernel
theorem tyJ2_ok : ∀ k, k < 0 → parseFieldDescriptor (TJ2 k).2.2.1 = some (tyJ2 k) := by decide +kernel
abbrev cJ2_getChar_3b067 : ByteArray := prog_19_method_5_code
def yJ2_getChar_3b067 : MethodName := ⟨RJ2, "getChar", "([BI)C"⟩
abbrev cJ2_length_9d52b : ByteArray := prog_19_method_6_code
def yJ2_length_9d52b : MethodName := ⟨RJ2, "length", "([B)I"⟩
abbrev cJ2_charAt_3b067 : ByteArray := prog_19_method_83_code
def yJ2_charAt_3b067 : MethodName := ⟨RJ2, "charAt", "([BI)C"⟩
abbrev cJ2_checkIndex_2214a : ByteArray := prog_19_method_91_code
def yJ2_checkIndex_2214a : MethodName := ⟨RJ2, "checkIndex", "(I[B)V"⟩
def RJ10 : String := "java/lang/System"
def TJ10 : u_T := fun k => match k with
  | _ => ("", "", "", false)
def tyJ10 : Nat → FieldType := fun k => match k with
  | _ => .int
abbrev wsJ100 : List Cond := u_ws RJ10 TJ10 0
theorem nmJ10 : ∀ a, a < 0 → ∀ b, b < 0 → a ≠ b → (TJ10 a).2.1 ≠ (TJ10 b).2.1 := by decide +kernel
theorem tyJ10_ok : ∀ k, k < 0 → parseFieldDescriptor (TJ10 k).2.2.1 = some (tyJ10 k) := by decide +kernel
def RJ3 : String := "jdk/internal/util/Preconditions"
def TJ3 : u_T := fun k => match k with
  | _ => ("", "", "", false)
def tyJ3 : Nat → FieldType := fun k => match k with
  | _ => .int
abbrev wsJ30 : List Cond := u_ws RJ3 TJ3 0
theorem nmJ3 : ∀ a, a < 0 → ∀ b, b < 0 → a ≠ b → (TJ3 a).2.1 ≠ (TJ3 b).2.1 := by decide +kernel
theorem tyJ3_ok : ∀ k, k < 0 → parseFieldDescriptor (TJ3 k).2.2.1 = some (tyJ3 k) := by decide +kernel
abbrev cJ3_checkIndex_8e157 : ByteArray := prog_21_method_11_code
def yJ3_checkIndex_8e157 : MethodName := ⟨RJ3, "checkIndex", "(IILjava/util/function/BiFunction;)I"⟩
def RL : String := "StickVotesLaw"
abbrev cL_law : ByteArray := code
def yL_law : MethodName := ⟨RL, "law", "([I)Z"⟩
abbrev vwCl : List vw_C := [(RX0, TX0, 2), (RX1, TX1, 2), (RX2, TX2, 6), (RX3, TX3, 3), (RX4, TX4, 5), (RX5, TX5, 3), (RX6, TX6, 1), (RX7, TX7, 6), (RX8, TX8, 12), (RX9, TX9, 6), (RX10, TX10, 3), (RX11, TX11, 10), (RX12, TX12, 30)]
/-! the words of the tables that stay when the machine warms up, by their places -/
theorem tt_sub {T t : List Cond} (ps : List Nat) (h : ps.filterMap (fun i => T[i]?) = t) : ∀ w ∈ t, w ∈ T := by
  intro w hw
  rw [← h] at hw
  obtain ⟨i, -, hi⟩ := List.mem_filterMap.mp hw
  exact List.mem_of_getElem? hi
def tt0 : List Cond := [.initialized RL, .initialized RX11, .initialized RX4, .initialized RX1, .initialized RJ9, .initialized RX7, .initialized RX10, .initialized RX8, .initialized RX2, .initialized RX9, .initialized RX5, .initialized RX0, .initialized RX3, .initialized RX6, .initialized RX12, .initialized RJ0, .initialized RJ1, .initialized RJ3, .initialized RJ2, .initialized RJ10, .initialized RJ6, .classLink RL 7 RX11, .instantiable RX11 10, .methodLink RL 9 yX11_init, .instanceMethod yX11_init]
set_option maxRecDepth 20000 in
theorem tt0_in : ∀ w ∈ tt0, w ∈ tables_1_1 := tt_sub [0, 1, 2, 3, 4, 5, 6, 7, 8, 9, 10, 11, 12, 13, 14, 15, 16, 17, 18, 19, 20, 21, 22, 23, 24] rfl
def tt1 : List Cond := [.code yX11_init cX11_init 1 (Option.none : Option Jvm.ClassFile.FieldType), .methodLink RX11 1 objectInit, .instanceMethod objectInit, .code objectInit ⟨#[0xb1]⟩ 1 (Option.none : Option Jvm.ClassFile.FieldType), .classLink RX11 7 RX4, .instantiable RX4 5, .instanceMethod yX4_init, .code yX4_init cX4_init 1 (Option.none : Option Jvm.ClassFile.FieldType), .methodLink RX4 3 objectInit, .classLink RX4 9 RX1, .instantiable RX1 2, .methodLink RX4 11 yX1_init, .instanceMethod yX1_init, .code yX1_init cX1_init 2 (Option.none : Option Jvm.ClassFile.FieldType), .methodLink RX1 3 objectInit, .methodLink RX1 9 yJ9_max_7cf53, .static yJ9_max_7cf53, .code yJ9_max_7cf53 cJ9_max_7cf53 2 (Option.some Jvm.ClassFile.FieldType.int), .fieldLink RX1 15 "StickVotes$Bytes" "cells" "[B", .fieldLink RX1 21 "StickVotes$Bytes" "length" "I", .laysFinal RX1 "StickVotes$Bytes" "cells" "[B", .lays RX1 "StickVotes$Bytes" "length" "I", .arrayClass Jvm.ClassFile.FieldType.byte, .classLink RX4 20 RX7, .instantiable RX7 6]
set_option maxRecDepth 20000 in
theorem tt1_in : ∀ w ∈ tt1, w ∈ tables_1_1 := tt_sub [25, 26, 27, 28, 29, 30, 32, 33, 34, 35, 36, 37, 38, 39, 40, 41, 42, 43, 44, 45, 46, 48, 51, 52, 53] rfl
def tt2 : List Cond := [.instanceMethod yX7_init, .code yX7_init cX7_init 1 (Option.none : Option Jvm.ClassFile.FieldType), .methodLink RX7 3 objectInit, .fieldLink RX7 9 "StickVotes$Setup" "numbers" "[I", .fieldLink RX7 15 "StickVotes$Setup" "boatNames" "[I", .fieldLink RX7 18 "StickVotes$Setup" "personNames" "[I", .fieldLink RX7 21 "StickVotes$Setup" "firstBoats" "[I", .fieldLink RX7 36 "StickVotes$Setup" "boats" "I", .fieldLink RX7 40 "StickVotes$Setup" "people" "I", .laysFinal RX7 "StickVotes$Setup" "numbers" "[I", .laysFinal RX7 "StickVotes$Setup" "boatNames" "[I", .laysFinal RX7 "StickVotes$Setup" "personNames" "[I", .laysFinal RX7 "StickVotes$Setup" "firstBoats" "[I", .lays RX7 "StickVotes$Setup" "boats" "I", .lays RX7 "StickVotes$Setup" "people" "I", .arrayClass Jvm.ClassFile.FieldType.int, .fieldLink RX4 14 "StickVotes$Parser" "tape" "LStickVotes$Bytes;", .fieldLink RX11 16 "StickVotes$Parser" "tape" "LStickVotes$Bytes;", .fieldLink RX4 23 "StickVotes$Parser" "draft" "LStickVotes$Setup;", .fieldLink RX11 86 "StickVotes$Parser" "draft" "LStickVotes$Setup;", .fieldLink RX4 97 "StickVotes$Parser" "kind" "I", .fieldLink RX4 47 "StickVotes$Parser" "start" "I", .fieldLink RX4 30 "StickVotes$Parser" "end" "I", .laysFinal RX4 "StickVotes$Parser" "tape" "LStickVotes$Bytes;", .laysFinal RX4 "StickVotes$Parser" "draft" "LStickVotes$Setup;"]
set_option maxRecDepth 20000 in
theorem tt2_in : ∀ w ∈ tt2, w ∈ tables_1_1 := tt_sub [55, 56, 57, 58, 59, 60, 61, 62, 63, 64, 66, 68, 70, 72, 74, 77, 78, 79, 80, 81, 82, 83, 84, 85, 87] rfl
def tt3 : List Cond := [.lays RX4 "StickVotes$Parser" "kind" "I", .lays RX4 "StickVotes$Parser" "start" "I", .lays RX4 "StickVotes$Parser" "end" "I", .classLink RX11 21 RX10, .instantiable RX10 3, .instanceMethod yX10_init, .code yX10_init cX10_init 1 (Option.none : Option Jvm.ClassFile.FieldType), .methodLink RX10 3 objectInit, .classLink RX10 9 RX7, .classLink RX10 18 RX8, .instantiable RX8 12, .instanceMethod yX8_init, .code yX8_init cX8_init 1 (Option.none : Option Jvm.ClassFile.FieldType), .methodLink RX8 3 objectInit, .classLink RX8 9 RX2, .instantiable RX2 6, .instanceMethod yX2_init, .code yX2_init cX2_init 1 (Option.none : Option Jvm.ClassFile.FieldType), .methodLink RX2 3 objectInit, .fieldLink RX2 9 "StickVotes$Fleet" "boatOf" "[I", .fieldLink RX2 15 "StickVotes$Fleet" "atSea" "[I", .fieldLink RX2 18 "StickVotes$Fleet" "faults" "[I", .fieldLink RX2 21 "StickVotes$Fleet" "daysAtSea" "[I", .fieldLink RX2 24 "StickVotes$Fleet" "back" "[I", .fieldLink RX2 27 "StickVotes$Fleet" "sailed" "[I"]
set_option maxRecDepth 20000 in
theorem tt3_in : ∀ w ∈ tt3, w ∈ tables_1_1 := tt_sub [89, 91, 93, 96, 97, 99, 100, 101, 102, 104, 105, 107, 108, 109, 110, 111, 113, 114, 115, 116, 117, 118, 119, 120, 121] rfl
def tt4 : List Cond := [.laysFinal RX2 "StickVotes$Fleet" "boatOf" "[I", .laysFinal RX2 "StickVotes$Fleet" "atSea" "[I", .laysFinal RX2 "StickVotes$Fleet" "faults" "[I", .laysFinal RX2 "StickVotes$Fleet" "daysAtSea" "[I", .laysFinal RX2 "StickVotes$Fleet" "back" "[I", .laysFinal RX2 "StickVotes$Fleet" "sailed" "[I", .classLink RX8 18 RX9, .instantiable RX9 6, .instanceMethod yX9_init, .code yX9_init cX9_init 1 (Option.none : Option Jvm.ClassFile.FieldType), .methodLink RX9 3 objectInit, .fieldLink RX9 9 "StickVotes$Sticks" "place" "[I", .fieldLink RX9 15 "StickVotes$Sticks" "carrier" "[I", .fieldLink RX9 18 "StickVotes$Sticks" "bound" "[I", .fieldLink RX9 21 "StickVotes$Sticks" "basket" "[I", .fieldLink RX9 24 "StickVotes$Sticks" "day" "[I", .fieldLink RX9 27 "StickVotes$Sticks" "reason" "[I", .laysFinal RX9 "StickVotes$Sticks" "place" "[I", .laysFinal RX9 "StickVotes$Sticks" "carrier" "[I", .laysFinal RX9 "StickVotes$Sticks" "bound" "[I", .laysFinal RX9 "StickVotes$Sticks" "basket" "[I", .laysFinal RX9 "StickVotes$Sticks" "day" "[I", .laysFinal RX9 "StickVotes$Sticks" "reason" "[I", .classLink RX8 25 RX5, .instantiable RX5 3]
set_option maxRecDepth 20000 in
theorem tt4_in : ∀ w ∈ tt4, w ∈ tables_1_1 := tt_sub [122, 124, 126, 128, 130, 132, 135, 136, 138, 139, 140, 141, 142, 143, 144, 145, 146, 147, 149, 151, 153, 155, 157, 160, 161] rfl
def tt5 : List Cond := [.methodLink RX8 27 yX5_init, .instanceMethod yX5_init, .code yX5_init cX5_init 2 (Option.none : Option Jvm.ClassFile.FieldType), .methodLink RX5 3 objectInit, .methodLink RX5 9 yJ9_max_7cf53, .fieldLink RX5 15 "StickVotes$Ring" "rows" "I", .fieldLink RX5 21 "StickVotes$Ring" "cells" "[I", .fieldLink RX5 25 "StickVotes$Ring" "added" "I", .laysFinal RX5 "StickVotes$Ring" "rows" "I", .laysFinal RX5 "StickVotes$Ring" "cells" "[I", .lays RX5 "StickVotes$Ring" "added" "I", .fieldLink RX8 12 "StickVotes$State" "fleet" "LStickVotes$Fleet;", .fieldLink RX6 49 "StickVotes$State" "fleet" "LStickVotes$Fleet;", .fieldLink RX10 46 "StickVotes$State" "fleet" "LStickVotes$Fleet;", .fieldLink RX11 108 "StickVotes$State" "fleet" "LStickVotes$Fleet;", .fieldLink RX8 21 "StickVotes$State" "sticks" "LStickVotes$Sticks;", .fieldLink RX6 39 "StickVotes$State" "sticks" "LStickVotes$Sticks;", .fieldLink RX10 87 "StickVotes$State" "sticks" "LStickVotes$Sticks;", .fieldLink RX11 158 "StickVotes$State" "sticks" "LStickVotes$Sticks;", .fieldLink RX8 30 "StickVotes$State" "past" "LStickVotes$Ring;", .fieldLink RX10 154 "StickVotes$State" "past" "LStickVotes$Ring;", .fieldLink RX11 311 "StickVotes$State" "past" "LStickVotes$Ring;", .fieldLink RX8 34 "StickVotes$State" "log" "LStickVotes$Ring;", .fieldLink RX10 56 "StickVotes$State" "log" "LStickVotes$Ring;", .fieldLink RX11 262 "StickVotes$State" "log" "LStickVotes$Ring;"]
set_option maxRecDepth 20000 in
theorem tt5_in : ∀ w ∈ tt5, w ∈ tables_1_1 := tt_sub [162, 163, 164, 165, 166, 167, 168, 169, 170, 172, 174, 177, 178, 179, 180, 181, 182, 183, 184, 185, 186, 187, 188, 189, 190] rfl
def tt6 : List Cond := [.fieldLink RX8 46 "StickVotes$State" "day" "I", .fieldLink RX10 42 "StickVotes$State" "day" "I", .fieldLink RX11 222 "StickVotes$State" "day" "I", .fieldLink RX8 50 "StickVotes$State" "votes" "I", .fieldLink RX10 100 "StickVotes$State" "votes" "I", .fieldLink RX11 259 "StickVotes$State" "votes" "I", .fieldLink RX8 56 "StickVotes$State" "isOpen" "Z", .fieldLink RX10 144 "StickVotes$State" "isOpen" "Z", .fieldLink RX8 60 "StickVotes$State" "baskets" "I", .fieldLink RX11 250 "StickVotes$State" "baskets" "I", .fieldLink RX8 63 "StickVotes$State" "lays" "I", .fieldLink RX10 113 "StickVotes$State" "lays" "I", .fieldLink RX11 361 "StickVotes$State" "lays" "I", .fieldLink RX8 66 "StickVotes$State" "recounts" "I", .fieldLink RX10 140 "StickVotes$State" "recounts" "I", .fieldLink RX11 204 "StickVotes$State" "recounts" "I", .fieldLink RX8 69 "StickVotes$State" "fixedNeed" "I", .fieldLink RX10 148 "StickVotes$State" "fixedNeed" "I", .fieldLink RX8 72 "StickVotes$State" "closedOn" "I", .fieldLink RX10 170 "StickVotes$State" "closedOn" "I", .laysFinal RX8 "StickVotes$State" "fleet" "LStickVotes$Fleet;", .laysFinal RX8 "StickVotes$State" "sticks" "LStickVotes$Sticks;", .laysFinal RX8 "StickVotes$State" "past" "LStickVotes$Ring;", .laysFinal RX8 "StickVotes$State" "log" "LStickVotes$Ring;", .lays RX8 "StickVotes$State" "day" "I"]
set_option maxRecDepth 20000 in
theorem tt6_in : ∀ w ∈ tt6, w ∈ tables_1_1 := tt_sub [191, 192, 193, 194, 195, 196, 197, 198, 199, 200, 201, 202, 203, 204, 205, 206, 207, 208, 209, 210, 211, 213, 215, 217, 219] rfl
def tt7 : List Cond := [.lays RX8 "StickVotes$State" "votes" "I", .lays RX8 "StickVotes$State" "isOpen" "Z", .lays RX8 "StickVotes$State" "baskets" "I", .lays RX8 "StickVotes$State" "lays" "I", .lays RX8 "StickVotes$State" "recounts" "I", .lays RX8 "StickVotes$State" "fixedNeed" "I", .lays RX8 "StickVotes$State" "closedOn" "I", .classLink RX10 25 RX0, .instantiable RX0 2, .instanceMethod yX0_init]
set_option maxRecDepth 20000 in
theorem tt7_in : ∀ w ∈ tt7, w ∈ tables_1_1 := tt_sub [221, 223, 225, 227, 229, 231, 233, 236, 237, 239] rfl
def tt8 : List Cond := [.code yX0_init cX0_init 1 (Option.none : Option Jvm.ClassFile.FieldType), .methodLink RX0 3 objectInit, .fieldLink RX0 9 "StickVotes$Ballot" "basketOf" "[I", .fieldLink RX0 15 "StickVotes$Ballot" "counts" "[I", .laysFinal RX0 "StickVotes$Ballot" "basketOf" "[I", .laysFinal RX0 "StickVotes$Ballot" "counts" "[I", .fieldLink RX10 12 "StickVotes$Village" "setup" "LStickVotes$Setup;", .fieldLink RX11 28 "StickVotes$Village" "setup" "LStickVotes$Setup;", .fieldLink RX10 21 "StickVotes$Village" "now" "LStickVotes$State;", .fieldLink RX11 33 "StickVotes$Village" "now" "LStickVotes$State;", .fieldLink RX10 28 "StickVotes$Village" "ballot" "LStickVotes$Ballot;", .laysFinal RX10 "StickVotes$Village" "setup" "LStickVotes$Setup;", .laysFinal RX10 "StickVotes$Village" "now" "LStickVotes$State;", .laysFinal RX10 "StickVotes$Village" "ballot" "LStickVotes$Ballot;", .classLink RX11 38 RX3, .instantiable RX3 3, .methodLink RX11 40 yX3_init, .instanceMethod yX3_init, .code yX3_init cX3_init 2 (Option.none : Option Jvm.ClassFile.FieldType), .methodLink RX3 3 objectInit, .classLink RX3 9 RX8, .fieldLink RX3 11 "StickVotes$History" "states" "[LStickVotes$State;", .fieldLink RX3 18 "StickVotes$History" "steps" "I", .fieldLink RX3 22 "StickVotes$History" "next" "I", .laysFinal RX3 "StickVotes$History" "states" "[LStickVotes$State;"]
set_option maxRecDepth 20000 in
theorem tt8_in : ∀ w ∈ tt8, w ∈ tables_1_2 := tt_sub [0, 1, 2, 3, 4, 6, 9, 10, 11, 12, 13, 14, 16, 18, 21, 22, 23, 24, 25, 26, 27, 30, 31, 32, 33] rfl
def tt9 : List Cond := [.lays RX3 "StickVotes$History" "steps" "I", .lays RX3 "StickVotes$History" "next" "I", .classLink RX11 45 RX8, .classLink RX11 56 RX6, .instantiable RX6 1, .instanceMethod yX6_init, .code yX6_init cX6_init 1 (Option.none : Option Jvm.ClassFile.FieldType), .methodLink RX6 3 objectInit, .classLink RX6 9 RX1, .methodLink RX6 11 yX1_init, .fieldLink RX6 14 "StickVotes$Scribe" "text" "LStickVotes$Bytes;", .laysFinal RX6 "StickVotes$Scribe" "text" "LStickVotes$Bytes;", .arrayClass Jvm.ClassFile.FieldType.boolean, .methodLink RX11 67 yX10_beginTheFirstOne, .instanceMethod yX10_beginTheFirstOne, .selects RX10 yX10_beginTheFirstOne yX10_beginTheFirstOne, .code yX10_beginTheFirstOne cX10_beginTheFirstOne 1 (Option.none : Option Jvm.ClassFile.FieldType), .methodLink RX10 32 yX7_makeFirstVillage, .instanceMethod yX7_makeFirstVillage, .selects RX7 yX7_makeFirstVillage yX7_makeFirstVillage, .code yX7_makeFirstVillage cX7_makeFirstVillage 2 (Option.none : Option Jvm.ClassFile.FieldType), .methodLink RX7 24 yX7_clear, .instanceMethod yX7_clear, .selects RX7 yX7_clear yX7_clear, .code yX7_clear cX7_clear 1 (Option.none : Option Jvm.ClassFile.FieldType)]
set_option maxRecDepth 20000 in
theorem tt9_in : ∀ w ∈ tt9, w ∈ tables_1_2 := tt_sub [35, 37, 40, 42, 43, 45, 46, 47, 48, 49, 50, 51, 54, 55, 56, 57, 58, 59, 60, 61, 62, 63, 64, 65, 66] rfl
def tt10 : List Cond := [.methodLink RX7 27 yX7_setNumber, .instanceMethod yX7_setNumber, .selects RX7 yX7_setNumber yX7_setNumber, .code yX7_setNumber cX7_setNumber 3 (Option.none : Option Jvm.ClassFile.FieldType), .static yX11_setCell, .code yX11_setCell cX11_setCell 3 (Option.none : Option Jvm.ClassFile.FieldType), .constant RX7 31 (33554432 : Int32), .methodLink RX7 32 yX7_addPerson, .instanceMethod yX7_addPerson, .selects RX7 yX7_addPerson yX7_addPerson, .code yX7_addPerson cX7_addPerson 3 (Option.none : Option Jvm.ClassFile.FieldType), .constant RX7 35 (67108864 : Int32), .methodLink RX10 35 yX8_begin, .instanceMethod yX8_begin, .selects RX8 yX8_begin yX8_begin, .code yX8_begin cX8_begin 2 (Option.none : Option Jvm.ClassFile.FieldType), .methodLink RX8 37 yX2_begin, .instanceMethod yX2_begin, .selects RX2 yX2_begin yX2_begin, .code yX2_begin cX2_begin 3 (Option.none : Option Jvm.ClassFile.FieldType), .methodLink RX2 30 yX7_people, .instanceMethod yX7_people, .selects RX7 yX7_people yX7_people, .code yX7_people cX7_people 1 (Option.some Jvm.ClassFile.FieldType.int), .methodLink RX2 36 yX7_firstBoatOf]
set_option maxRecDepth 20000 in
theorem tt10_in : ∀ w ∈ tt10, w ∈ tables_1_2 := tt_sub [67, 68, 69, 70, 72, 73, 74, 75, 76, 77, 78, 79, 80, 81, 82, 83, 84, 85, 86, 87, 88, 89, 90, 91, 92] rfl
def tt11 : List Cond := [.instanceMethod yX7_firstBoatOf, .selects RX7 yX7_firstBoatOf yX7_firstBoatOf, .code yX7_firstBoatOf cX7_firstBoatOf 2 (Option.some Jvm.ClassFile.FieldType.int), .static yX11_cell, .code yX11_cell cX11_cell 3 (Option.some Jvm.ClassFile.FieldType.int), .static yX11_fillRow, .code yX11_fillRow cX11_fillRow 3 (Option.none : Option Jvm.ClassFile.FieldType), .methodLink RX8 41 yX9_begin, .instanceMethod yX9_begin, .selects RX9 yX9_begin yX9_begin, .code yX9_begin cX9_begin 1 (Option.none : Option Jvm.ClassFile.FieldType), .methodLink RX8 43 yX5_clear, .instanceMethod yX5_clear, .selects RX5 yX5_clear yX5_clear, .code yX5_clear cX5_clear 1 (Option.none : Option Jvm.ClassFile.FieldType), .methodLink RX8 53 yX8_beginVote, .instanceMethod yX8_beginVote, .selects RX8 yX8_beginVote yX8_beginVote, .code yX8_beginVote cX8_beginVote 2 (Option.none : Option Jvm.ClassFile.FieldType), .fieldLink RX11 10 "StickVotes" "parser" "LStickVotes$Parser;", .fieldLink RX11 20 "StickVotes" "tape" "LStickVotes$Bytes;", .fieldLink RX11 24 "StickVotes" "village" "LStickVotes$Village;", .fieldLink RX11 32 "StickVotes" "setup" "LStickVotes$Setup;", .fieldLink RX11 37 "StickVotes" "now" "LStickVotes$State;", .fieldLink RX11 41 "StickVotes" "history" "LStickVotes$History;"]
set_option maxRecDepth 20000 in
theorem tt11_in : ∀ w ∈ tt11, w ∈ tables_1_2 := tt_sub [93, 94, 95, 97, 98, 100, 101, 102, 103, 104, 105, 107, 108, 109, 110, 111, 112, 113, 114, 115, 116, 117, 118, 119, 120] rfl
def tt12 : List Cond := [.fieldLink RX11 48 "StickVotes" "kept" "[LStickVotes$State;", .fieldLink RX11 52 "StickVotes" "isKept" "[Z", .fieldLink RX11 59 "StickVotes" "scribe" "LStickVotes$Scribe;", .fieldLink RX11 63 "StickVotes" "errorAt" "I", .laysFinal RX11 "StickVotes" "parser" "LStickVotes$Parser;", .laysFinal RX11 "StickVotes" "tape" "LStickVotes$Bytes;", .laysFinal RX11 "StickVotes" "village" "LStickVotes$Village;", .laysFinal RX11 "StickVotes" "setup" "LStickVotes$Setup;", .laysFinal RX11 "StickVotes" "now" "LStickVotes$State;", .laysFinal RX11 "StickVotes" "history" "LStickVotes$History;", .laysFinal RX11 "StickVotes" "kept" "[LStickVotes$State;", .laysFinal RX11 "StickVotes" "isKept" "[Z", .laysFinal RX11 "StickVotes" "scribe" "LStickVotes$Scribe;", .lays RX11 "StickVotes" "errorAt" "I", .methodLink RL 13 yX11_append, .instanceMethod yX11_append, .selects RX11 yX11_append yX11_append, .code yX11_append cX11_append 6 (Option.some Jvm.ClassFile.FieldType.int), .methodLink RX11 70 yX1_length, .instanceMethod yX1_length, .selects RX1 yX1_length yX1_length, .code yX1_length cX1_length 1 (Option.some Jvm.ClassFile.FieldType.int), .methodLink RX11 76 yX1_addWhole, .instanceMethod yX1_addWhole, .selects RX1 yX1_addWhole yX1_addWhole]
set_option maxRecDepth 20000 in
theorem tt12_in : ∀ w ∈ tt12, w ∈ tables_1_2 := tt_sub [121, 122, 123, 124, 125, 127, 129, 131, 133, 135, 137, 139, 141, 143, 146, 147, 148, 149, 150, 151, 152, 153, 154, 155, 156] rfl
def tt13 : List Cond := [.code yX1_addWhole cX1_addWhole 3 (Option.none : Option Jvm.ClassFile.FieldType), .methodLink RX1 25 yX1_add, .instanceMethod yX1_add, .selects RX1 yX1_add yX1_add, .code yX1_add cX1_add 2 (Option.none : Option Jvm.ClassFile.FieldType), .methodLink RL 18 yX11_truncate, .instanceMethod yX11_truncate, .selects RX11 yX11_truncate yX11_truncate, .code yX11_truncate cX11_truncate 2 (Option.some Jvm.ClassFile.FieldType.int), .methodLink RX11 80 yX1_cutTo, .instanceMethod yX1_cutTo, .selects RX1 yX1_cutTo yX1_cutTo, .code yX1_cutTo cX1_cutTo 2 (Option.none : Option Jvm.ClassFile.FieldType), .methodLink RL 23 yX11_load, .instanceMethod yX11_load, .selects RX11 yX11_load yX11_load, .code yX11_load cX11_load 2 (Option.some Jvm.ClassFile.FieldType.int), .methodLink RX11 83 yX4_readTape, .instanceMethod yX4_readTape, .selects RX4 yX4_readTape yX4_readTape, .code yX4_readTape cX4_readTape 1 (Option.some Jvm.ClassFile.FieldType.int), .methodLink RX4 27 yX7_clear, .methodLink RX4 34 yX4_advance, .instanceMethod yX4_advance, .code yX4_advance cX4_advance 1 (Option.none : Option Jvm.ClassFile.FieldType)]
set_option maxRecDepth 20000 in
theorem tt13_in : ∀ w ∈ tt13, w ∈ tables_1_2 := tt_sub [157, 158, 159, 160, 161, 162, 163, 164, 165, 166, 167, 168, 169, 170, 171, 172, 173, 174, 175, 176, 177, 178, 179, 181, 182] rfl
def tt14 : List Cond := [.methodLink RX4 126 yX1_length, .methodLink RX4 129 yX1_at, .instanceMethod yX1_at, .selects RX1 yX1_at yX1_at, .code yX1_at cX1_at 2 (Option.some Jvm.ClassFile.FieldType.int), .methodLink RX4 132 yX4_isSpace, .static yX4_isSpace, .code yX4_isSpace cX4_isSpace 1 (Option.some Jvm.ClassFile.FieldType.boolean), .methodLink RX4 136 yX4_isLetter, .static yX4_isLetter, .code yX4_isLetter cX4_isLetter 1 (Option.some Jvm.ClassFile.FieldType.boolean), .methodLink RX4 139 yX4_isDigit, .static yX4_isDigit, .code yX4_isDigit cX4_isDigit 1 (Option.some Jvm.ClassFile.FieldType.boolean), .methodLink RX4 37 yX4_readNumbers, .instanceMethod yX4_readNumbers, .code yX4_readNumbers cX4_readNumbers 1 (Option.some Jvm.ClassFile.FieldType.boolean), .methodLink RX4 52 yX4_skipKeyword, .instanceMethod yX4_skipKeyword, .code yX4_skipKeyword cX4_skipKeyword 2 (Option.some Jvm.ClassFile.FieldType.boolean), .methodLink RX4 80 yX4_isKeyword, .instanceMethod yX4_isKeyword, .code yX4_isKeyword cX4_isKeyword 2 (Option.some Jvm.ClassFile.FieldType.boolean), .methodLink RX4 120 yX4_reads, .instanceMethod yX4_reads]
set_option maxRecDepth 20000 in
theorem tt14_in : ∀ w ∈ tt14, w ∈ tables_1_2 := tt_sub [183, 184, 185, 186, 187, 188, 189, 190, 191, 192, 193, 194, 195, 196, 197, 199, 200, 202, 204, 205, 206, 208, 209, 210, 212] rfl
def tt15 : List Cond := [.code yX4_reads cX4_reads 3 (Option.some Jvm.ClassFile.FieldType.boolean), .methodLink RX4 142 yJ0_length_8abf5, .instanceMethod yJ0_length_8abf5, .selects RJ0 yJ0_length_8abf5 yJ0_length_8abf5, .code yJ0_length_8abf5 cJ0_length_8abf5 1 (Option.some Jvm.ClassFile.FieldType.int), .methodLink RJ0 335 yJ0_coder_7d493, .instanceMethod yJ0_coder_7d493, .selects RJ0 yJ0_coder_7d493 yJ0_coder_7d493, .code yJ0_coder_7d493 cJ0_coder_7d493 1 (Option.some Jvm.ClassFile.FieldType.byte), .fieldLink RJ0 38 "java/lang/String" "COMPACT_STRINGS" "Z", .methodLink RX4 145 yJ0_charAt_5068e, .instanceMethod yJ0_charAt_5068e, .selects RJ0 yJ0_charAt_5068e yJ0_charAt_5068e, .code yJ0_charAt_5068e cJ0_charAt_5068e 2 (Option.some Jvm.ClassFile.FieldType.char), .methodLink RJ0 492 yJ0_isLatin1_aae02, .instanceMethod yJ0_isLatin1_aae02, .selects RJ0 yJ0_isLatin1_aae02 yJ0_isLatin1_aae02, .code yJ0_isLatin1_aae02 cJ0_isLatin1_aae02 1 (Option.some Jvm.ClassFile.FieldType.boolean), .methodLink RJ0 495 yJ1_charAt_3b067, .static yJ1_charAt_3b067, .code yJ1_charAt_3b067 cJ1_charAt_3b067 2 (Option.some Jvm.ClassFile.FieldType.char), .methodLink RJ1 9 yJ0_checkIndex_df160, .static yJ0_checkIndex_df160, .code yJ0_checkIndex_df160 cJ0_checkIndex_df160 2 (Option.none : Option Jvm.ClassFile.FieldType), .fieldLink RJ0 1053 "jdk/internal/util/Preconditions" "SIOOBE_FORMATTER" "Ljava/util/function/BiFunction;"]
set_option maxRecDepth 20000 in
theorem tt15_in : ∀ w ∈ tt15, w ∈ tables_1_2 := tt_sub [213, 214, 215, 216, 217, 218, 219, 220, 221, 222, 224, 225, 226, 227, 228, 229, 230, 231, 232, 233, 234, 235, 236, 237, 238] rfl
def tt16 : List Cond := [.methodLink RJ0 1059 yJ3_checkIndex_8e157, .static yJ3_checkIndex_8e157, .code yJ3_checkIndex_8e157 cJ3_checkIndex_8e157 3 (Option.some Jvm.ClassFile.FieldType.int), .methodLink RJ0 498 yJ2_charAt_3b067, .static yJ2_charAt_3b067, .code yJ2_charAt_3b067 cJ2_charAt_3b067 2 (Option.some Jvm.ClassFile.FieldType.char), .methodLink RJ2 67 yJ2_checkIndex_2214a, .static yJ2_checkIndex_2214a, .code yJ2_checkIndex_2214a cJ2_checkIndex_2214a 2 (Option.none : Option Jvm.ClassFile.FieldType), .methodLink RJ2 48 yJ2_length_9d52b, .static yJ2_length_9d52b, .code yJ2_length_9d52b cJ2_length_9d52b 1 (Option.some Jvm.ClassFile.FieldType.int), .methodLink RJ2 414 yJ0_checkIndex_df160, .methodLink RJ2 71 yJ2_getChar_3b067, .static yJ2_getChar_3b067, .code yJ2_getChar_3b067 cJ2_getChar_3b067 2 (Option.some Jvm.ClassFile.FieldType.char), .fieldLink RJ2 44 "java/lang/StringUTF16" "$assertionsDisabled" "Z", .fieldLink RJ2 59 "java/lang/StringUTF16" "HI_BYTE_SHIFT" "I", .fieldLink RJ2 63 "java/lang/StringUTF16" "LO_BYTE_SHIFT" "I", .methodLink RX4 56 yX4_readNumber, .instanceMethod yX4_readNumber, .code yX4_readNumber cX4_readNumber 5 (Option.some Jvm.ClassFile.FieldType.boolean), .methodLink RX4 114 yX4_digits, .instanceMethod yX4_digits, .code yX4_digits cX4_digits 3 (Option.some Jvm.ClassFile.FieldType.int)]
set_option maxRecDepth 20000 in
theorem tt16_in : ∀ w ∈ tt16, w ∈ tables_1_3 := tt_sub [0, 1, 2, 3, 4, 5, 6, 7, 8, 9, 10, 11, 12, 13, 14, 15, 16, 18, 20, 22, 24, 25, 26, 28, 29] rfl
def tt17 : List Cond := [.methodLink RX4 117 yX7_setNumber, .methodLink RX4 62 yX4_readShares, .instanceMethod yX4_readShares, .code yX4_readShares cX4_readShares 2 (Option.some Jvm.ClassFile.FieldType.boolean), .methodLink RX4 75 yX4_skipSemicolon, .instanceMethod yX4_skipSemicolon, .code yX4_skipSemicolon cX4_skipSemicolon 1 (Option.some Jvm.ClassFile.FieldType.boolean), .methodLink RX4 41 yX4_readBoats, .instanceMethod yX4_readBoats, .code yX4_readBoats cX4_readBoats 2 (Option.some Jvm.ClassFile.FieldType.boolean), .methodLink RX4 83 yX4_isName, .instanceMethod yX4_isName, .code yX4_isName cX4_isName 1 (Option.some Jvm.ClassFile.FieldType.boolean), .methodLink RX4 123 yX4_isAnyKeyword, .instanceMethod yX4_isAnyKeyword, .code yX4_isAnyKeyword cX4_isAnyKeyword 1 (Option.some Jvm.ClassFile.FieldType.boolean), .methodLink RX4 86 yX4_letters, .instanceMethod yX4_letters, .code yX4_letters cX4_letters 4 (Option.some Jvm.ClassFile.FieldType.int), .methodLink RX4 90 yX7_boatNamed, .instanceMethod yX7_boatNamed, .selects RX7 yX7_boatNamed yX7_boatNamed, .code yX7_boatNamed cX7_boatNamed 2 (Option.some Jvm.ClassFile.FieldType.int), .methodLink RX7 55 yX7_find, .static yX7_find]
set_option maxRecDepth 20000 in
theorem tt17_in : ∀ w ∈ tt17, w ∈ tables_1_3 := tt_sub [30, 32, 34, 35, 41, 43, 44, 45, 47, 48, 50, 52, 53, 54, 56, 57, 60, 62, 63, 64, 65, 66, 67, 68, 69] rfl
def tt18 : List Cond := [.code yX7_find cX7_find 4 (Option.some Jvm.ClassFile.FieldType.int), .methodLink RX4 94 yX7_addBoat, .instanceMethod yX7_addBoat, .selects RX7 yX7_addBoat yX7_addBoat, .code yX7_addBoat cX7_addBoat 2 (Option.none : Option Jvm.ClassFile.FieldType), .methodLink RX4 44 yX4_readPeople, .instanceMethod yX4_readPeople, .code yX4_readPeople cX4_readPeople 2 (Option.some Jvm.ClassFile.FieldType.boolean), .methodLink RX4 102 yX4_readPerson, .instanceMethod yX4_readPerson, .code yX4_readPerson cX4_readPerson 3 (Option.some Jvm.ClassFile.FieldType.boolean), .methodLink RX4 105 yX7_personNamed, .instanceMethod yX7_personNamed, .selects RX7 yX7_personNamed yX7_personNamed, .code yX7_personNamed cX7_personNamed 2 (Option.some Jvm.ClassFile.FieldType.int), .methodLink RX4 110 yX7_addPerson, .methodLink RX11 89 yX10_beginAnew, .instanceMethod yX10_beginAnew, .selects RX10 yX10_beginAnew yX10_beginAnew, .code yX10_beginAnew cX10_beginAnew 2 (Option.none : Option Jvm.ClassFile.FieldType), .methodLink RX10 39 yX7_copyFrom, .instanceMethod yX7_copyFrom, .selects RX7 yX7_copyFrom yX7_copyFrom, .code yX7_copyFrom cX7_copyFrom 2 (Option.none : Option Jvm.ClassFile.FieldType), .static yX11_copyRow]
set_option maxRecDepth 20000 in
theorem tt18_in : ∀ w ∈ tt18, w ∈ tables_1_3 := tt_sub [70, 71, 72, 73, 74, 75, 77, 78, 79, 81, 82, 83, 84, 85, 86, 87, 88, 89, 90, 91, 92, 93, 94, 95, 97] rfl
def tt19 : List Cond := [.code yX11_copyRow cX11_copyRow 2 (Option.none : Option Jvm.ClassFile.FieldType), .methodLink RX11 387 yJ9_min_7cf53, .static yJ9_min_7cf53, .code yJ9_min_7cf53 cJ9_min_7cf53 2 (Option.some Jvm.ClassFile.FieldType.int), .methodLink RX11 390 ⟨"java/lang/System", "arraycopy", "(Ljava/lang/Object;ILjava/lang/Object;II)V"⟩, .static ⟨"java/lang/System", "arraycopy", "(Ljava/lang/Object;ILjava/lang/Object;II)V"⟩, .native ⟨"java/lang/System", "arraycopy", "(Ljava/lang/Object;ILjava/lang/Object;II)V"⟩, .methodLink RX11 93 yX3_forget, .instanceMethod yX3_forget, .selects RX3 yX3_forget yX3_forget, .code yX3_forget cX3_forget 1 (Option.none : Option Jvm.ClassFile.FieldType), .methodLink RX11 96 yX7_people, .methodLink RL 28 yX11_errorPosition, .instanceMethod yX11_errorPosition, .selects RX11 yX11_errorPosition yX11_errorPosition, .code yX11_errorPosition cX11_errorPosition 1 (Option.some Jvm.ClassFile.FieldType.int), .methodLink RL 32 yX11_sail, .instanceMethod yX11_sail, .selects RX11 yX11_sail yX11_sail, .code yX11_sail cX11_sail 3 (Option.some Jvm.ClassFile.FieldType.int), .methodLink RX11 101 yX11_isBoat, .instanceMethod yX11_isBoat, .code yX11_isBoat cX11_isBoat 2 (Option.some Jvm.ClassFile.FieldType.boolean), .methodLink RX11 235 yX7_boats, .instanceMethod yX7_boats]
set_option maxRecDepth 20000 in
theorem tt19_in : ∀ w ∈ tt19, w ∈ tables_1_3 := tt_sub [98, 99, 100, 101, 102, 103, 104, 105, 106, 107, 108, 109, 110, 111, 112, 113, 114, 115, 116, 117, 118, 120, 121, 122, 123] rfl
def tt20 : List Cond := [.selects RX7 yX7_boats yX7_boats, .code yX7_boats cX7_boats 1 (Option.some Jvm.ClassFile.FieldType.int), .methodLink RX11 307 yX11_isIn, .static yX11_isIn, .code yX11_isIn cX11_isIn 2 (Option.some Jvm.ClassFile.FieldType.boolean), .methodLink RX11 105 yX11_isDays, .static yX11_isDays, .code yX11_isDays cX11_isDays 1 (Option.some Jvm.ClassFile.FieldType.boolean), .methodLink RX11 112 yX2_isOut, .instanceMethod yX2_isOut, .selects RX2 yX2_isOut yX2_isOut, .code yX2_isOut cX2_isOut 2 (Option.some Jvm.ClassFile.FieldType.boolean), .methodLink RX11 117 yX3_remember, .instanceMethod yX3_remember, .selects RX3 yX3_remember yX3_remember, .code yX3_remember cX3_remember 2 (Option.none : Option Jvm.ClassFile.FieldType), .methodLink RX3 29 yX8_copyFrom, .instanceMethod yX8_copyFrom, .selects RX8 yX8_copyFrom yX8_copyFrom, .code yX8_copyFrom cX8_copyFrom 2 (Option.none : Option Jvm.ClassFile.FieldType), .methodLink RX8 75 yX2_copyFrom, .instanceMethod yX2_copyFrom, .selects RX2 yX2_copyFrom yX2_copyFrom, .code yX2_copyFrom cX2_copyFrom 2 (Option.none : Option Jvm.ClassFile.FieldType), .methodLink RX8 79 yX9_copyFrom]
set_option maxRecDepth 20000 in
theorem tt20_in : ∀ w ∈ tt20, w ∈ tables_1_3 := tt_sub [124, 125, 126, 127, 128, 129, 130, 131, 132, 133, 134, 135, 137, 138, 139, 140, 142, 143, 144, 145, 146, 147, 148, 149, 151] rfl
def tt21 : List Cond := [.instanceMethod yX9_copyFrom, .selects RX9 yX9_copyFrom yX9_copyFrom, .code yX9_copyFrom cX9_copyFrom 2 (Option.none : Option Jvm.ClassFile.FieldType), .methodLink RX8 82 yX5_copyFrom, .instanceMethod yX5_copyFrom, .selects RX5 yX5_copyFrom yX5_copyFrom, .code yX5_copyFrom cX5_copyFrom 2 (Option.none : Option Jvm.ClassFile.FieldType), .methodLink RX3 33 yJ9_min_7cf53, .methodLink RX11 121 yX10_setOut, .instanceMethod yX10_setOut, .selects RX10 yX10_setOut yX10_setOut, .code yX10_setOut cX10_setOut 5 (Option.some Jvm.ClassFile.FieldType.int), .methodLink RX10 50 yX2_leave, .instanceMethod yX2_leave, .selects RX2 yX2_leave yX2_leave, .code yX2_leave cX2_leave 4 (Option.some Jvm.ClassFile.FieldType.int), .methodLink RX2 62 yX2_sailedOf, .instanceMethod yX2_sailedOf, .selects RX2 yX2_sailedOf yX2_sailedOf, .code yX2_sailedOf cX2_sailedOf 2 (Option.some Jvm.ClassFile.FieldType.int), .methodLink RX2 65 yX2_boatOf, .instanceMethod yX2_boatOf, .selects RX2 yX2_boatOf yX2_boatOf, .code yX2_boatOf cX2_boatOf 2 (Option.some Jvm.ClassFile.FieldType.int), .methodLink RX2 67 yX2_aboard]
set_option maxRecDepth 20000 in
theorem tt21_in : ∀ w ∈ tt21, w ∈ tables_1_3 := tt_sub [152, 153, 154, 156, 157, 158, 159, 161, 162, 163, 164, 165, 166, 167, 168, 169, 171, 172, 173, 174, 175, 176, 177, 178, 179] rfl
def tt22 : List Cond := [.instanceMethod yX2_aboard, .selects RX2 yX2_aboard yX2_aboard, .code yX2_aboard cX2_aboard 4 (Option.some Jvm.ClassFile.FieldType.int), .methodLink RX2 70 yX2_isAtSea, .instanceMethod yX2_isAtSea, .selects RX2 yX2_isAtSea yX2_isAtSea, .code yX2_isAtSea cX2_isAtSea 2 (Option.some Jvm.ClassFile.FieldType.boolean), .methodLink RX10 60 yX5_add, .instanceMethod yX5_add, .selects RX5 yX5_add yX5_add, .code yX5_add cX5_add 6 (Option.none : Option Jvm.ClassFile.FieldType), .methodLink RX5 35 yX5_placeOf, .instanceMethod yX5_placeOf, .code yX5_placeOf cX5_placeOf 2 (Option.some Jvm.ClassFile.FieldType.int), .methodLink RX5 59 yJ9_floorMod_7cf53, .static yJ9_floorMod_7cf53, .code yJ9_floorMod_7cf53 cJ9_floorMod_7cf53 3 (Option.some Jvm.ClassFile.FieldType.int), .methodLink RL 37 yX11_delay, .instanceMethod yX11_delay, .selects RX11 yX11_delay yX11_delay, .code yX11_delay cX11_delay 3 (Option.some Jvm.ClassFile.FieldType.int), .methodLink RX11 125 yX2_moveBack, .instanceMethod yX2_moveBack, .selects RX2 yX2_moveBack yX2_moveBack, .code yX2_moveBack cX2_moveBack 3 (Option.none : Option Jvm.ClassFile.FieldType)]
set_option maxRecDepth 20000 in
theorem tt22_in : ∀ w ∈ tt22, w ∈ tables_1_3 := tt_sub [180, 181, 182, 183, 184, 185, 186, 187, 188, 189, 190, 191, 193, 194, 195, 196, 197, 199, 200, 201, 202, 203, 204, 205, 206] rfl
def tt23 : List Cond := [.methodLink RX2 59 yX2_backOf, .instanceMethod yX2_backOf, .selects RX2 yX2_backOf yX2_backOf, .code yX2_backOf cX2_backOf 2 (Option.some Jvm.ClassFile.FieldType.int), .methodLink RX11 129 yX2_backOf, .methodLink RL 41 yX11_comeHome, .instanceMethod yX11_comeHome, .selects RX11 yX11_comeHome yX11_comeHome, .code yX11_comeHome cX11_comeHome 2 (Option.some Jvm.ClassFile.FieldType.int), .methodLink RX11 133 yX10_bringHome, .instanceMethod yX10_bringHome, .selects RX10 yX10_bringHome yX10_bringHome, .code yX10_bringHome cX10_bringHome 3 (Option.some Jvm.ClassFile.FieldType.int), .methodLink RX10 66 yX2_arrive, .instanceMethod yX2_arrive, .selects RX2 yX2_arrive yX2_arrive, .code yX2_arrive cX2_arrive 4 (Option.some Jvm.ClassFile.FieldType.int), .methodLink RL 45 yX11_join, .instanceMethod yX11_join, .selects RX11 yX11_join yX11_join, .code yX11_join cX11_join 4 (Option.some Jvm.ClassFile.FieldType.int), .methodLink RX11 136 yX11_isPerson, .instanceMethod yX11_isPerson, .code yX11_isPerson cX11_isPerson 2 (Option.some Jvm.ClassFile.FieldType.boolean), .methodLink RX11 139 yX2_isAtSea]
set_option maxRecDepth 20000 in
theorem tt23_in : ∀ w ∈ tt23, w ∈ tables_1_3 := tt_sub [207, 208, 209, 210, 211, 212, 213, 214, 215, 216, 217, 218, 219, 220, 221, 222, 223, 224, 225, 226, 227, 228, 230, 231, 232] rfl
def tt24 : List Cond := [.methodLink RX11 142 yX2_boatOf, .methodLink RX11 145 yX2_assign, .instanceMethod yX2_assign, .selects RX2 yX2_assign yX2_assign, .code yX2_assign cX2_assign 3 (Option.none : Option Jvm.ClassFile.FieldType), .methodLink RL 49 yX11_open, .instanceMethod yX11_open]
set_option maxRecDepth 20000 in
theorem tt24_in : ∀ w ∈ tt24, w ∈ tables_1_3 := tt_sub [233, 234, 235, 236, 237, 238, 239] rfl
def tt25 : List Cond := [.selects RX11 yX11_open yX11_open, .code yX11_open cX11_open 2 (Option.some Jvm.ClassFile.FieldType.int), .methodLink RX11 148 yX10_isVoteOpen, .instanceMethod yX10_isVoteOpen, .selects RX10 yX10_isVoteOpen yX10_isVoteOpen, .code yX10_isVoteOpen cX10_isVoteOpen 1 (Option.some Jvm.ClassFile.FieldType.boolean), .methodLink RX11 152 yX10_beginVote, .instanceMethod yX10_beginVote, .selects RX10 yX10_beginVote yX10_beginVote, .code yX10_beginVote cX10_beginVote 2 (Option.some Jvm.ClassFile.FieldType.int), .methodLink RX10 91 yX9_takeOut, .instanceMethod yX9_takeOut, .selects RX9 yX9_takeOut yX9_takeOut, .code yX9_takeOut cX9_takeOut 2 (Option.none : Option Jvm.ClassFile.FieldType), .methodLink RX9 46 yX9_carrierOf, .instanceMethod yX9_carrierOf, .selects RX9 yX9_carrierOf yX9_carrierOf, .code yX9_carrierOf cX9_carrierOf 2 (Option.some Jvm.ClassFile.FieldType.int), .methodLink RX10 96 yX8_beginVote, .methodLink RX10 103 yX10_latestVote, .instanceMethod yX10_latestVote, .code yX10_latestVote cX10_latestVote 1 (Option.some Jvm.ClassFile.FieldType.int), .methodLink RL 53 yX11_give, .instanceMethod yX11_give, .selects RX11 yX11_give yX11_give]
set_option maxRecDepth 20000 in
theorem tt25_in : ∀ w ∈ tt25, w ∈ tables_1_4 := tt_sub [0, 1, 2, 3, 4, 5, 6, 7, 8, 9, 10, 11, 12, 13, 14, 15, 16, 17, 20, 21, 23, 24, 25, 26, 27] rfl
def tt26 : List Cond := [.code yX11_give cX11_give 4 (Option.some Jvm.ClassFile.FieldType.int), .methodLink RX11 155 yX11_isBasket, .static yX11_isBasket, .code yX11_isBasket cX11_isBasket 1 (Option.some Jvm.ClassFile.FieldType.boolean), .methodLink RX11 162 yX9_placeOf, .instanceMethod yX9_placeOf, .selects RX9 yX9_placeOf yX9_placeOf, .code yX9_placeOf cX9_placeOf 2 (Option.some Jvm.ClassFile.FieldType.int), .methodLink RX11 167 yX9_handTo, .instanceMethod yX9_handTo, .selects RX9 yX9_handTo yX9_handTo, .code yX9_handTo cX9_handTo 4 (Option.none : Option Jvm.ClassFile.FieldType), .methodLink RX11 171 yX9_carriedBy, .instanceMethod yX9_carriedBy, .selects RX9 yX9_carriedBy yX9_carriedBy, .code yX9_carriedBy cX9_carriedBy 4 (Option.some Jvm.ClassFile.FieldType.int), .methodLink RX9 42 yX9_placeOf, .methodLink RX11 174 yJ6_bitCount_0f7a4, .static yJ6_bitCount_0f7a4, .code yJ6_bitCount_0f7a4 cJ6_bitCount_0f7a4 1 (Option.some Jvm.ClassFile.FieldType.int), .constant RJ6 265 (1431655765 : Int32), .constant RJ6 266 (858993459 : Int32), .constant RJ6 267 (252645135 : Int32), .methodLink RL 58 yX11_takeBack, .instanceMethod yX11_takeBack]
set_option maxRecDepth 20000 in
theorem tt26_in : ∀ w ∈ tt26, w ∈ tables_1_4 := tt_sub [28, 29, 30, 31, 32, 33, 34, 35, 36, 37, 38, 39, 40, 41, 42, 43, 44, 45, 46, 47, 48, 49, 50, 51, 52] rfl
def tt27 : List Cond := [.selects RX11 yX11_takeBack yX11_takeBack, .code yX11_takeBack cX11_takeBack 4 (Option.some Jvm.ClassFile.FieldType.int), .methodLink RX11 179 yX9_carrierOf, .methodLink RX11 182 yX9_handBack, .instanceMethod yX9_handBack, .selects RX9 yX9_handBack yX9_handBack, .code yX9_handBack cX9_handBack 2 (Option.none : Option Jvm.ClassFile.FieldType), .methodLink RL 62 yX11_lay, .instanceMethod yX11_lay, .selects RX11 yX11_lay yX11_lay, .code yX11_lay cX11_lay 5 (Option.some Jvm.ClassFile.FieldType.int), .methodLink RX11 185 yX11_refusalToLay, .instanceMethod yX11_refusalToLay, .code yX11_refusalToLay cX11_refusalToLay 4 (Option.some Jvm.ClassFile.FieldType.int), .methodLink RX11 384 yX9_isHadBy, .instanceMethod yX9_isHadBy, .selects RX9 yX9_isHadBy yX9_isHadBy, .code yX9_isHadBy cX9_isHadBy 3 (Option.some Jvm.ClassFile.FieldType.boolean), .methodLink RX11 189 yX10_putIntoBasket, .instanceMethod yX10_putIntoBasket, .selects RX10 yX10_putIntoBasket yX10_putIntoBasket, .code yX10_putIntoBasket cX10_putIntoBasket 4 (Option.some Jvm.ClassFile.FieldType.int), .methodLink RX10 106 yX10_reasonFor, .instanceMethod yX10_reasonFor, .selects RX10 yX10_reasonFor yX10_reasonFor]
set_option maxRecDepth 20000 in
theorem tt27_in : ∀ w ∈ tt27, w ∈ tables_1_4 := tt_sub [53, 54, 55, 56, 57, 58, 59, 60, 61, 62, 63, 64, 66, 67, 68, 69, 70, 71, 72, 73, 74, 75, 76, 77, 78] rfl
def tt28 : List Cond := [.code yX10_reasonFor cX10_reasonFor 5 (Option.some Jvm.ClassFile.FieldType.int), .methodLink RX10 181 yX2_isAtSea, .methodLink RX10 214 yX9_laidForOthers, .instanceMethod yX9_laidForOthers, .selects RX9 yX9_laidForOthers yX9_laidForOthers, .code yX9_laidForOthers cX9_laidForOthers 5 (Option.some Jvm.ClassFile.FieldType.int), .methodLink RX10 173 yX7_numberOf, .instanceMethod yX7_numberOf, .selects RX7 yX7_numberOf yX7_numberOf, .code yX7_numberOf cX7_numberOf 2 (Option.some Jvm.ClassFile.FieldType.int), .methodLink RX10 217 yX9_boundTo, .instanceMethod yX9_boundTo, .selects RX9 yX9_boundTo yX9_boundTo, .code yX9_boundTo cX9_boundTo 2 (Option.some Jvm.ClassFile.FieldType.int), .methodLink RX10 110 yX9_putInto, .instanceMethod yX9_putInto, .selects RX9 yX9_putInto yX9_putInto, .code yX9_putInto cX9_putInto 5 (Option.none : Option Jvm.ClassFile.FieldType), .methodLink RX10 116 yX9_countIn, .instanceMethod yX9_countIn, .selects RX9 yX9_countIn yX9_countIn, .code yX9_countIn cX9_countIn 2 (Option.some Jvm.ClassFile.FieldType.int), .methodLink RX9 56 yX9_maskIn, .instanceMethod yX9_maskIn, .selects RX9 yX9_maskIn yX9_maskIn]
set_option maxRecDepth 20000 in
theorem tt28_in : ∀ w ∈ tt28, w ∈ tables_1_4 := tt_sub [79, 80, 81, 82, 83, 84, 85, 86, 87, 88, 89, 90, 91, 92, 93, 94, 95, 96, 97, 98, 99, 100, 101, 102, 103] rfl
def tt29 : List Cond := [.code yX9_maskIn cX9_maskIn 4 (Option.some Jvm.ClassFile.FieldType.int), .methodLink RX9 67 yX9_basketOf, .instanceMethod yX9_basketOf, .selects RX9 yX9_basketOf yX9_basketOf, .code yX9_basketOf cX9_basketOf 2 (Option.some Jvm.ClassFile.FieldType.int), .methodLink RX9 59 yJ6_bitCount_0f7a4, .methodLink RL 66 yX11_contest, .instanceMethod yX11_contest, .selects RX11 yX11_contest yX11_contest, .code yX11_contest cX11_contest 3 (Option.some Jvm.ClassFile.FieldType.int), .methodLink RX11 192 yX2_faultsOf, .instanceMethod yX2_faultsOf, .selects RX2 yX2_faultsOf yX2_faultsOf, .code yX2_faultsOf cX2_faultsOf 2 (Option.some Jvm.ClassFile.FieldType.int), .methodLink RX11 195 yX10_stateOfVote, .instanceMethod yX10_stateOfVote, .selects RX10 yX10_stateOfVote yX10_stateOfVote, .code yX10_stateOfVote cX10_stateOfVote 1 (Option.some Jvm.ClassFile.FieldType.int), .methodLink RX11 198 yX10_judge, .instanceMethod yX10_judge, .selects RX10 yX10_judge yX10_judge, .code yX10_judge cX10_judge 5 (Option.some Jvm.ClassFile.FieldType.int), .methodLink RX10 119 yX9_reasonOf, .instanceMethod yX9_reasonOf, .selects RX9 yX9_reasonOf yX9_reasonOf]
set_option maxRecDepth 20000 in
theorem tt29_in : ∀ w ∈ tt29, w ∈ tables_1_4 := tt_sub [104, 105, 106, 107, 108, 109, 110, 111, 112, 113, 114, 115, 116, 117, 118, 119, 120, 121, 122, 123, 124, 125, 126, 127, 128] rfl
def tt30 : List Cond := [.code yX9_reasonOf cX9_reasonOf 2 (Option.some Jvm.ClassFile.FieldType.int), .methodLink RX10 122 yX2_addFault, .instanceMethod yX2_addFault, .selects RX2 yX2_addFault yX2_addFault, .code yX2_addFault cX2_addFault 2 (Option.none : Option Jvm.ClassFile.FieldType), .methodLink RX2 56 yX2_faultsOf, .methodLink RX10 125 yX2_faultsOf, .methodLink RX10 128 yX10_resultNow, .instanceMethod yX10_resultNow, .selects RX10 yX10_resultNow yX10_resultNow, .code yX10_resultNow cX10_resultNow 1 (Option.some Jvm.ClassFile.FieldType.int), .methodLink RX10 167 yX10_needOfVote, .instanceMethod yX10_needOfVote, .selects RX10 yX10_needOfVote yX10_needOfVote, .code yX10_needOfVote cX10_needOfVote 1 (Option.some Jvm.ClassFile.FieldType.int), .methodLink RX10 202 yX2_boatsOut, .instanceMethod yX2_boatsOut, .selects RX2 yX2_boatsOut yX2_boatsOut, .code yX2_boatsOut cX2_boatsOut 3 (Option.some Jvm.ClassFile.FieldType.int), .methodLink RX2 77 yX2_isOut, .methodLink RX10 199 yX10_needOf, .instanceMethod yX10_needOf, .selects RX10 yX10_needOf yX10_needOf, .code yX10_needOf cX10_needOf 5 (Option.some Jvm.ClassFile.FieldType.int), .methodLink RX10 187 yX10_seasonOn]
set_option maxRecDepth 20000 in
theorem tt30_in : ∀ w ∈ tt30, w ∈ tables_1_4 := tt_sub [129, 130, 131, 132, 133, 134, 135, 136, 137, 138, 139, 140, 141, 142, 143, 144, 145, 146, 147, 148, 149, 150, 151, 152, 153] rfl
def tt31 : List Cond := [.instanceMethod yX10_seasonOn, .selects RX10 yX10_seasonOn yX10_seasonOn, .code yX10_seasonOn cX10_seasonOn 3 (Option.some Jvm.ClassFile.FieldType.int), .methodLink RX10 176 yJ9_floorMod_7cf53, .methodLink RX10 190 yX7_people, .methodLink RX10 193 yJ9_max_7cf53, .methodLink RX10 151 yX10_resultFor, .instanceMethod yX10_resultFor, .code yX10_resultFor cX10_resultFor 2 (Option.some Jvm.ClassFile.FieldType.int), .methodLink RX10 220 yX0_takeFrom, .instanceMethod yX0_takeFrom, .selects RX0 yX0_takeFrom yX0_takeFrom, .code yX0_takeFrom cX0_takeFrom 3 (Option.none : Option Jvm.ClassFile.FieldType), .methodLink RX0 18 yX9_placeOf, .methodLink RX0 24 yX9_basketOf, .methodLink RX10 224 yX0_result, .instanceMethod yX0_result, .selects RX0 yX0_result yX0_result, .code yX0_result cX0_result 4 (Option.some Jvm.ClassFile.FieldType.int), .methodLink RX0 30 yX0_countAll, .instanceMethod yX0_countAll, .code yX0_countAll cX0_countAll 4 (Option.some Jvm.ClassFile.FieldType.int), .methodLink RX0 34 yJ9_max_7cf53, .methodLink RX10 131 yX10_strike, .instanceMethod yX10_strike]
set_option maxRecDepth 20000 in
theorem tt31_in : ∀ w ∈ tt31, w ∈ tables_1_4 := tt_sub [154, 155, 156, 157, 158, 159, 160, 162, 163, 164, 165, 166, 167, 168, 169, 170, 171, 172, 173, 174, 176, 177, 182, 183, 185] rfl
def tt32 : List Cond := [.code yX10_strike cX10_strike 2 (Option.none : Option Jvm.ClassFile.FieldType), .methodLink RX10 143 yX9_strike, .instanceMethod yX9_strike, .selects RX9 yX9_strike yX9_strike, .code yX9_strike cX9_strike 2 (Option.none : Option Jvm.ClassFile.FieldType), .methodLink RX10 134 yX10_correctResult, .instanceMethod yX10_correctResult, .code yX10_correctResult cX10_correctResult 3 (Option.none : Option Jvm.ClassFile.FieldType), .methodLink RX10 157 yX9_turnout, .instanceMethod yX9_turnout, .selects RX9 yX9_turnout yX9_turnout, .code yX9_turnout cX9_turnout 1 (Option.some Jvm.ClassFile.FieldType.int), .methodLink RX9 64 yX9_countAt, .instanceMethod yX9_countAt, .code yX9_countAt cX9_countAt 4 (Option.some Jvm.ClassFile.FieldType.int), .methodLink RX10 160 yX5_setPart, .instanceMethod yX5_setPart, .selects RX5 yX5_setPart yX5_setPart, .code yX5_setPart cX5_setPart 4 (Option.none : Option Jvm.ClassFile.FieldType), .methodLink RX5 47 yX5_has, .instanceMethod yX5_has, .selects RX5 yX5_has yX5_has, .code yX5_has cX5_has 2 (Option.some Jvm.ClassFile.FieldType.boolean), .methodLink RX5 43 yX5_oldest, .instanceMethod yX5_oldest]
set_option maxRecDepth 20000 in
theorem tt32_in : ∀ w ∈ tt32, w ∈ tables_1_4 := tt_sub [186, 187, 188, 189, 190, 191, 193, 194, 195, 196, 197, 198, 199, 201, 202, 203, 204, 205, 206, 207, 208, 209, 210, 211, 212] rfl
def tt33 : List Cond := [.selects RX5 yX5_oldest yX5_oldest, .code yX5_oldest cX5_oldest 1 (Option.some Jvm.ClassFile.FieldType.int), .methodLink RX10 164 yX10_inLog, .static yX10_inLog, .code yX10_inLog cX10_inLog 1 (Option.some Jvm.ClassFile.FieldType.int), .methodLink RL 70 yX11_close, .instanceMethod yX11_close, .selects RX11 yX11_close yX11_close, .code yX11_close cX11_close 1 (Option.some Jvm.ClassFile.FieldType.int), .methodLink RX11 201 yX10_endVote, .instanceMethod yX10_endVote, .selects RX10 yX10_endVote yX10_endVote, .code yX10_endVote cX10_endVote 3 (Option.some Jvm.ClassFile.FieldType.int), .methodLink RL 74 yX11_recount, .instanceMethod yX11_recount, .selects RX11 yX11_recount yX11_recount, .code yX11_recount cX11_recount 1 (Option.some Jvm.ClassFile.FieldType.int), .methodLink RX11 207 yX7_numberOf, .methodLink RX11 210 yX10_strikeAllWrong, .instanceMethod yX10_strikeAllWrong, .selects RX10 yX10_strikeAllWrong yX10_strikeAllWrong, .code yX10_strikeAllWrong cX10_strikeAllWrong 4 (Option.some Jvm.ClassFile.FieldType.int), .methodLink RX10 137 yX9_isWrong, .instanceMethod yX9_isWrong, .selects RX9 yX9_isWrong yX9_isWrong]
set_option maxRecDepth 20000 in
theorem tt33_in : ∀ w ∈ tt33, w ∈ tables_1_4 := tt_sub [213, 214, 216, 217, 218, 219, 220, 221, 222, 223, 224, 225, 226, 227, 228, 229, 230, 231, 232, 233, 234, 235, 236, 237, 238] rfl
def tt34 : List Cond := [.code yX9_isWrong cX9_isWrong 2 (Option.some Jvm.ClassFile.FieldType.boolean)]
set_option maxRecDepth 20000 in
theorem tt34_in : ∀ w ∈ tt34, w ∈ tables_1_4 := tt_sub [239] rfl
def tt35 : List Cond := [.methodLink RX9 49 yX9_reasonOf, .methodLink RL 78 yX11_pass, .instanceMethod yX11_pass, .selects RX11 yX11_pass yX11_pass, .code yX11_pass cX11_pass 2 (Option.some Jvm.ClassFile.FieldType.int), .methodLink RX11 213 yX10_letDaysPass, .instanceMethod yX10_letDaysPass, .selects RX10 yX10_letDaysPass yX10_letDaysPass, .code yX10_letDaysPass cX10_letDaysPass 4 (Option.some Jvm.ClassFile.FieldType.int), .methodLink RX10 70 yX2_countDayAtSea, .instanceMethod yX2_countDayAtSea, .selects RX2 yX2_countDayAtSea yX2_countDayAtSea, .code yX2_countDayAtSea cX2_countDayAtSea 2 (Option.none : Option Jvm.ClassFile.FieldType), .methodLink RX2 74 yX2_daysAtSeaOf, .instanceMethod yX2_daysAtSeaOf, .selects RX2 yX2_daysAtSeaOf yX2_daysAtSeaOf, .code yX2_daysAtSeaOf cX2_daysAtSeaOf 2 (Option.some Jvm.ClassFile.FieldType.int), .methodLink RX10 73 yX10_bringHomeTodays, .instanceMethod yX10_bringHomeTodays, .code yX10_bringHomeTodays cX10_bringHomeTodays 3 (Option.some Jvm.ClassFile.FieldType.int), .methodLink RX10 77 yX2_isOut, .methodLink RX10 81 yX2_backOf, .methodLink RX10 84 yX10_bringHome, .methodLink RL 82 yX11_keep, .instanceMethod yX11_keep]
set_option maxRecDepth 20000 in
theorem tt35_in : ∀ w ∈ tt35, w ∈ tables_1_5 := tt_sub [0, 1, 2, 3, 4, 5, 6, 7, 8, 9, 10, 11, 12, 13, 14, 15, 16, 17, 19, 20, 21, 22, 23, 24, 25] rfl
def tt36 : List Cond := [.selects RX11 yX11_keep yX11_keep, .code yX11_keep cX11_keep 2 (Option.some Jvm.ClassFile.FieldType.int), .methodLink RX11 216 yX11_isSlot, .instanceMethod yX11_isSlot, .code yX11_isSlot cX11_isSlot 2 (Option.some Jvm.ClassFile.FieldType.boolean), .methodLink RX11 219 yX8_copyFrom, .methodLink RL 86 yX11_restore, .instanceMethod yX11_restore, .selects RX11 yX11_restore yX11_restore, .code yX11_restore cX11_restore 2 (Option.some Jvm.ClassFile.FieldType.int), .methodLink RL 90 yX11_undo, .instanceMethod yX11_undo, .selects RX11 yX11_undo yX11_undo, .code yX11_undo cX11_undo 1 (Option.some Jvm.ClassFile.FieldType.int), .methodLink RX11 225 yX3_bringBack, .instanceMethod yX3_bringBack, .selects RX3 yX3_bringBack yX3_bringBack, .code yX3_bringBack cX3_bringBack 3 (Option.some Jvm.ClassFile.FieldType.boolean), .methodLink RX11 229 yX3_steps, .instanceMethod yX3_steps, .selects RX3 yX3_steps yX3_steps, .code yX3_steps cX3_steps 1 (Option.some Jvm.ClassFile.FieldType.int), .methodLink RL 94 yX11_value, .instanceMethod yX11_value, .selects RX11 yX11_value yX11_value]
set_option maxRecDepth 20000 in
theorem tt36_in : ∀ w ∈ tt36, w ∈ tables_1_5 := tt_sub [26, 27, 28, 30, 31, 32, 33, 34, 35, 36, 37, 38, 39, 40, 41, 42, 43, 44, 45, 46, 47, 48, 49, 50, 51] rfl
def tt37 : List Cond := [.code yX11_value cX11_value 2 (Option.some Jvm.ClassFile.FieldType.int), .methodLink RX11 232 yX10_seasonOn, .methodLink RX11 238 yX2_boatsOut, .methodLink RX11 241 yX2_peopleAtSea, .instanceMethod yX2_peopleAtSea, .selects RX2 yX2_peopleAtSea yX2_peopleAtSea, .code yX2_peopleAtSea cX2_peopleAtSea 3 (Option.some Jvm.ClassFile.FieldType.int), .methodLink RX11 244 yX10_needOfVote, .methodLink RX11 247 yX9_turnout, .methodLink RX11 253 yX10_resultNow, .methodLink RX11 256 yX9_struckOnes, .instanceMethod yX9_struckOnes, .selects RX9 yX9_struckOnes yX9_struckOnes, .code yX9_struckOnes cX9_struckOnes 1 (Option.some Jvm.ClassFile.FieldType.int), .methodLink RX11 266 yX5_size, .instanceMethod yX5_size, .selects RX5 yX5_size yX5_size, .code yX5_size cX5_size 1 (Option.some Jvm.ClassFile.FieldType.int), .methodLink RX5 32 yJ9_min_7cf53, .methodLink RX11 271 yX9_wrongMask, .instanceMethod yX9_wrongMask, .selects RX9 yX9_wrongMask yX9_wrongMask, .code yX9_wrongMask cX9_wrongMask 3 (Option.some Jvm.ClassFile.FieldType.int), .methodLink RX9 70 yX9_isWrong, .methodLink RL 98 yX11_person]
set_option maxRecDepth 20000 in
theorem tt37_in : ∀ w ∈ tt37, w ∈ tables_1_5 := tt_sub [52, 53, 54, 55, 56, 57, 58, 59, 60, 61, 62, 63, 64, 65, 66, 67, 68, 69, 70, 71, 72, 73, 74, 75, 76] rfl
def tt38 : List Cond := [.instanceMethod yX11_person, .selects RX11 yX11_person yX11_person, .code yX11_person cX11_person 3 (Option.some Jvm.ClassFile.FieldType.int), .methodLink RX11 274 yX10_homeDayOf, .instanceMethod yX10_homeDayOf, .selects RX10 yX10_homeDayOf yX10_homeDayOf, .code yX10_homeDayOf cX10_homeDayOf 2 (Option.some Jvm.ClassFile.FieldType.int), .methodLink RX10 184 yX2_boatOf, .methodLink RX11 277 yX9_laidForOthers, .methodLink RX11 280 yX2_daysAtSeaOf, .methodLink RL 102 yX11_boat, .instanceMethod yX11_boat, .selects RX11 yX11_boat yX11_boat, .code yX11_boat cX11_boat 3 (Option.some Jvm.ClassFile.FieldType.int), .methodLink RX11 283 yX2_aboard, .methodLink RX11 286 yX2_belongingTo, .instanceMethod yX2_belongingTo, .selects RX2 yX2_belongingTo yX2_belongingTo, .code yX2_belongingTo cX2_belongingTo 4 (Option.some Jvm.ClassFile.FieldType.int), .methodLink RX11 289 yX2_sailedOf, .methodLink RL 106 yX11_stick, .instanceMethod yX11_stick, .selects RX11 yX11_stick yX11_stick, .code yX11_stick cX11_stick 3 (Option.some Jvm.ClassFile.FieldType.int), .methodLink RX11 292 yX9_boundTo]
set_option maxRecDepth 20000 in
theorem tt38_in : ∀ w ∈ tt38, w ∈ tables_1_5 := tt_sub [77, 78, 79, 80, 81, 82, 83, 84, 85, 86, 87, 88, 89, 90, 91, 92, 93, 94, 95, 96, 97, 98, 99, 100, 101] rfl
def tt39 : List Cond := [.methodLink RX11 295 yX9_basketOf, .methodLink RX11 298 yX9_dayOf, .instanceMethod yX9_dayOf, .selects RX9 yX9_dayOf yX9_dayOf, .code yX9_dayOf cX9_dayOf 2 (Option.some Jvm.ClassFile.FieldType.int), .methodLink RX11 301 yX9_reasonOf, .methodLink RL 110 yX11_basket, .instanceMethod yX11_basket, .selects RX11 yX11_basket yX11_basket, .code yX11_basket cX11_basket 2 (Option.some Jvm.ClassFile.FieldType.int), .methodLink RX11 304 yX9_countIn, .methodLink RL 114 yX11_number, .instanceMethod yX11_number, .selects RX11 yX11_number yX11_number, .code yX11_number cX11_number 2 (Option.some Jvm.ClassFile.FieldType.int), .methodLink RL 118 yX11_past, .instanceMethod yX11_past, .selects RX11 yX11_past yX11_past, .code yX11_past cX11_past 3 (Option.some Jvm.ClassFile.FieldType.int), .methodLink RX11 314 yX5_part, .instanceMethod yX5_part, .selects RX5 yX5_part yX5_part, .code yX5_part cX5_part 3 (Option.some Jvm.ClassFile.FieldType.int), .methodLink RL 122 yX11_log, .instanceMethod yX11_log]
set_option maxRecDepth 20000 in
theorem tt39_in : ∀ w ∈ tt39, w ∈ tables_1_5 := tt_sub [102, 103, 104, 105, 106, 107, 108, 109, 110, 111, 112, 113, 114, 115, 116, 117, 118, 119, 120, 121, 122, 123, 124, 126, 127] rfl
def tt40 : List Cond := [.selects RX11 yX11_log yX11_log, .code yX11_log cX11_log 3 (Option.some Jvm.ClassFile.FieldType.int), .methodLink RX11 317 yX5_oldest, .methodLink RL 126 yX11_named, .instanceMethod yX11_named, .selects RX11 yX11_named yX11_named, .code yX11_named cX11_named 3 (Option.some Jvm.ClassFile.FieldType.int), .methodLink RX11 320 yX7_isName, .static yX7_isName, .code yX7_isName cX7_isName 4 (Option.some Jvm.ClassFile.FieldType.boolean), .methodLink RX11 323 yX7_boatNamed, .methodLink RX11 326 yX7_personNamed, .methodLink RL 131 yX11_owners, .instanceMethod yX11_owners, .selects RX11 yX11_owners yX11_owners, .code yX11_owners cX11_owners 2 (Option.some Jvm.ClassFile.FieldType.int), .methodLink RX11 329 yX9_maskIn, .methodLink RL 135 yX11_carries, .instanceMethod yX11_carries, .selects RX11 yX11_carries yX11_carries, .code yX11_carries cX11_carries 2 (Option.some Jvm.ClassFile.FieldType.int), .methodLink RL 139 yX11_wrongOnes, .instanceMethod yX11_wrongOnes, .selects RX11 yX11_wrongOnes yX11_wrongOnes, .code yX11_wrongOnes cX11_wrongOnes 1 (Option.some Jvm.ClassFile.FieldType.int)]
set_option maxRecDepth 20000 in
theorem tt40_in : ∀ w ∈ tt40, w ∈ tables_1_5 := tt_sub [128, 129, 130, 131, 132, 133, 134, 135, 136, 137, 138, 139, 140, 141, 142, 143, 144, 145, 146, 147, 148, 149, 150, 151, 152] rfl
def tt41 : List Cond := [.methodLink RL 143 yX11_why, .instanceMethod yX11_why, .selects RX11 yX11_why yX11_why, .code yX11_why cX11_why 5 (Option.some Jvm.ClassFile.FieldType.int), .methodLink RX11 332 yX10_reasonFor, .methodLink RL 147 yX11_needIfHome, .instanceMethod yX11_needIfHome, .selects RX11 yX11_needIfHome yX11_needIfHome, .code yX11_needIfHome cX11_needIfHome 2 (Option.some Jvm.ClassFile.FieldType.int), .methodLink RX11 335 yX10_needOf, .methodLink RL 151 yX11_leads, .instanceMethod yX11_leads, .selects RX11 yX11_leads yX11_leads, .code yX11_leads cX11_leads 1 (Option.some Jvm.ClassFile.FieldType.int), .methodLink RL 155 yX11_truly, .instanceMethod yX11_truly, .selects RX11 yX11_truly yX11_truly, .code yX11_truly cX11_truly 1 (Option.some Jvm.ClassFile.FieldType.int), .methodLink RX11 338 yX10_resultOfRightOnes, .instanceMethod yX10_resultOfRightOnes, .selects RX10 yX10_resultOfRightOnes yX10_resultOfRightOnes, .code yX10_resultOfRightOnes cX10_resultOfRightOnes 2 (Option.some Jvm.ClassFile.FieldType.int), .methodLink RX10 227 yX0_leaveOut, .instanceMethod yX0_leaveOut, .selects RX0 yX0_leaveOut yX0_leaveOut]
set_option maxRecDepth 20000 in
theorem tt41_in : ∀ w ∈ tt41, w ∈ tables_1_5 := tt_sub [153, 154, 155, 156, 157, 158, 159, 160, 161, 162, 163, 164, 165, 166, 167, 168, 169, 170, 171, 172, 173, 174, 175, 176, 177] rfl
def tt42 : List Cond := [.code yX0_leaveOut cX0_leaveOut 2 (Option.none : Option Jvm.ClassFile.FieldType), .methodLink RL 159 yX11_canWin, .instanceMethod yX11_canWin, .selects RX11 yX11_canWin yX11_canWin, .code yX11_canWin cX11_canWin 2 (Option.some Jvm.ClassFile.FieldType.boolean), .methodLink RX11 341 yX10_resultWithAllInto, .instanceMethod yX10_resultWithAllInto, .selects RX10 yX10_resultWithAllInto yX10_resultWithAllInto, .code yX10_resultWithAllInto cX10_resultWithAllInto 3 (Option.some Jvm.ClassFile.FieldType.int), .methodLink RX10 230 yX10_canBeLaid, .instanceMethod yX10_canBeLaid, .code yX10_canBeLaid cX10_canBeLaid 3 (Option.some Jvm.ClassFile.FieldType.boolean), .methodLink RX10 237 yX9_placeOf, .methodLink RX10 240 yX9_carrierOf, .methodLink RX10 233 yX0_put, .instanceMethod yX0_put, .selects RX0 yX0_put yX0_put, .code yX0_put cX0_put 3 (Option.none : Option Jvm.ClassFile.FieldType), .methodLink RL 164 yX11_decisive, .instanceMethod yX11_decisive, .selects RX11 yX11_decisive yX11_decisive, .code yX11_decisive cX11_decisive 1 (Option.some Jvm.ClassFile.FieldType.int), .methodLink RX11 344 yX10_decidingSticks, .instanceMethod yX10_decidingSticks, .selects RX10 yX10_decidingSticks yX10_decidingSticks]
set_option maxRecDepth 20000 in
theorem tt42_in : ∀ w ∈ tt42, w ∈ tables_1_5 := tt_sub [178, 179, 180, 181, 182, 183, 184, 185, 186, 187, 189, 190, 191, 192, 193, 194, 195, 196, 197, 198, 199, 200, 201, 202, 203] rfl
def tt43 : List Cond := [.code yX10_decidingSticks cX10_decidingSticks 4 (Option.some Jvm.ClassFile.FieldType.int), .methodLink RX10 243 yX9_basketOf, .methodLink RL 168 yX11_lacks, .instanceMethod yX11_lacks, .selects RX11 yX11_lacks yX11_lacks, .code yX11_lacks cX11_lacks 1 (Option.some Jvm.ClassFile.FieldType.int), .methodLink RX11 347 yJ9_max_7cf53, .methodLink RL 172 yX11_needIn, .instanceMethod yX11_needIn, .selects RX11 yX11_needIn yX11_needIn, .code yX11_needIn cX11_needIn 2 (Option.some Jvm.ClassFile.FieldType.int), .methodLink RX11 352 yX10_needBehind, .instanceMethod yX10_needBehind, .selects RX10 yX10_needBehind yX10_needBehind, .code yX10_needBehind cX10_needBehind 3 (Option.some Jvm.ClassFile.FieldType.int), .methodLink RX10 196 yX2_boatsOutOn, .instanceMethod yX2_boatsOutOn, .selects RX2 yX2_boatsOutOn yX2_boatsOutOn, .code yX2_boatsOutOn cX2_boatsOutOn 4 (Option.some Jvm.ClassFile.FieldType.int), .methodLink RL 176 yX11_bestDay, .instanceMethod yX11_bestDay, .selects RX11 yX11_bestDay yX11_bestDay, .code yX11_bestDay cX11_bestDay 2 (Option.some Jvm.ClassFile.FieldType.int), .methodLink RX11 355 yX10_bestDayUpTo, .instanceMethod yX10_bestDayUpTo]
set_option maxRecDepth 20000 in
theorem tt43_in : ∀ w ∈ tt43, w ∈ tables_1_5 := tt_sub [204, 205, 206, 207, 208, 209, 210, 211, 212, 213, 214, 215, 216, 217, 218, 219, 220, 221, 222, 223, 224, 225, 226, 227, 228] rfl
def tt44 : List Cond := [.selects RX10 yX10_bestDayUpTo yX10_bestDayUpTo, .code yX10_bestDayUpTo cX10_bestDayUpTo 6 (Option.some Jvm.ClassFile.FieldType.int), .methodLink RX10 205 yX10_surplusBehind, .instanceMethod yX10_surplusBehind, .code yX10_surplusBehind cX10_surplusBehind 3 (Option.some Jvm.ClassFile.FieldType.int), .methodLink RX10 208 yX2_peopleAtSeaOn, .instanceMethod yX2_peopleAtSeaOn, .selects RX2 yX2_peopleAtSeaOn yX2_peopleAtSeaOn, .code yX2_peopleAtSeaOn cX2_peopleAtSeaOn 4 (Option.some Jvm.ClassFile.FieldType.int), .methodLink RX10 211 yX10_needBehind]
set_option maxRecDepth 20000 in
theorem tt44_in : ∀ w ∈ tt44, w ∈ tables_1_5 := tt_sub [229, 230, 231, 233, 234, 235, 236, 237, 238, 239] rfl
def tt45 : List Cond := [.methodLink RL 180 yX11_mightiest, .instanceMethod yX11_mightiest, .selects RX11 yX11_mightiest yX11_mightiest, .code yX11_mightiest cX11_mightiest 1 (Option.some Jvm.ClassFile.FieldType.int), .methodLink RX11 358 yX10_mightiestCarrier, .instanceMethod yX10_mightiestCarrier, .selects RX10 yX10_mightiestCarrier yX10_mightiestCarrier, .code yX10_mightiestCarrier cX10_mightiestCarrier 5 (Option.some Jvm.ClassFile.FieldType.int), .methodLink RX10 246 yX10_mightOf, .instanceMethod yX10_mightOf, .code yX10_mightOf cX10_mightOf 5 (Option.some Jvm.ClassFile.FieldType.int), .methodLink RX10 249 yX9_carriedBy, .methodLink RX10 252 yJ9_min_7cf53, .methodLink RL 184 yX11_agrees, .instanceMethod yX11_agrees, .selects RX11 yX11_agrees yX11_agrees, .code yX11_agrees cX11_agrees 1 (Option.some Jvm.ClassFile.FieldType.boolean), .methodLink RL 189 yX11_share, .instanceMethod yX11_share, .selects RX11 yX11_share yX11_share, .code yX11_share cX11_share 3 (Option.some Jvm.ClassFile.FieldType.float), .constantFloat RX11 364 (3212836864 : UInt32), .methodLink RL 194 yX11_seafaring, .instanceMethod yX11_seafaring, .selects RX11 yX11_seafaring yX11_seafaring]
set_option maxRecDepth 20000 in
theorem tt45_in : ∀ w ∈ tt45, w ∈ tables_1_6 := tt_sub [0, 1, 2, 3, 4, 5, 6, 7, 8, 10, 11, 12, 13, 14, 15, 16, 17, 18, 19, 20, 21, 22, 23, 24, 25] rfl
def tt46 : List Cond := [.code yX11_seafaring cX11_seafaring 3 (Option.some Jvm.ClassFile.FieldType.double), .methodLink RX11 365 yX2_daysAtSeaOfAll, .instanceMethod yX2_daysAtSeaOfAll, .selects RX2 yX2_daysAtSeaOfAll yX2_daysAtSeaOfAll, .code yX2_daysAtSeaOfAll cX2_daysAtSeaOfAll 4 (Option.some Jvm.ClassFile.FieldType.long), .methodLink RL 199 yX11_viewLength, .instanceMethod yX11_viewLength, .selects RX11 yX11_viewLength yX11_viewLength, .code yX11_viewLength cX11_viewLength 1 (Option.some Jvm.ClassFile.FieldType.int), .methodLink RX11 369 yX6_writeView, .instanceMethod yX6_writeView, .selects RX6 yX6_writeView yX6_writeView, .code yX6_writeView cX6_writeView 4 (Option.some (Jvm.ClassFile.FieldType.object "StickVotes$Bytes")), .methodLink RX6 20 yX1_cutTo, .methodLink RX6 23 yX7_people, .methodLink RX6 29 yX7_personName, .instanceMethod yX7_personName, .selects RX7 yX7_personName yX7_personName, .code yX7_personName cX7_personName 2 (Option.some Jvm.ClassFile.FieldType.int), .methodLink RX6 33 yX1_addName, .instanceMethod yX1_addName, .selects RX1 yX1_addName yX1_addName, .code yX1_addName cX1_addName 4 (Option.none : Option Jvm.ClassFile.FieldType), .methodLink RX6 36 yX1_add, .methodLink RX6 45 yX6_writeStick]
set_option maxRecDepth 20000 in
theorem tt46_in : ∀ w ∈ tt46, w ∈ tables_1_6 := tt_sub [26, 27, 28, 29, 30, 31, 32, 33, 34, 35, 36, 37, 38, 39, 40, 41, 42, 43, 44, 45, 46, 47, 48, 49, 50] rfl
def tt47 : List Cond := [.instanceMethod yX6_writeStick, .code yX6_writeStick cX6_writeStick 6 (Option.none : Option Jvm.ClassFile.FieldType), .methodLink RX6 65 yX9_carrierOf, .methodLink RX6 70 yX9_basketOf, .methodLink RX6 73 yX9_placeOf, .methodLink RX6 76 yX6_placeWord, .static yX6_placeWord, .code yX6_placeWord cX6_placeWord 1 (Option.some (Jvm.ClassFile.FieldType.object "java/lang/String")), .methodLink RX6 61 yX1_addText, .instanceMethod yX1_addText, .selects RX1 yX1_addText yX1_addText, .code yX1_addText cX1_addText 3 (Option.none : Option Jvm.ClassFile.FieldType), .methodLink RX1 29 yJ0_length_8abf5, .methodLink RX1 34 yJ0_charAt_5068e, .methodLink RX6 80 yX6_writeNumber, .instanceMethod yX6_writeNumber, .code yX6_writeNumber cX6_writeNumber 2 (Option.none : Option Jvm.ClassFile.FieldType), .methodLink RX6 103 yX1_addNumber, .instanceMethod yX1_addNumber, .selects RX1 yX1_addNumber yX1_addNumber, .code yX1_addNumber cX1_addNumber 7 (Option.none : Option Jvm.ClassFile.FieldType), .constantLong RX1 40 (10 : Int64), .constantLong RX1 42 (48 : Int64), .methodLink RX6 53 yX2_isAtSea, .methodLink RL 203 yX11_viewByte]
set_option maxRecDepth 20000 in
theorem tt47_in : ∀ w ∈ tt47, w ∈ tables_1_6 := tt_sub [52, 53, 54, 55, 56, 57, 58, 59, 64, 65, 66, 67, 68, 69, 70, 72, 73, 74, 75, 76, 77, 78, 79, 80, 82] rfl
def tt48 : List Cond := [.instanceMethod yX11_viewByte, .selects RX11 yX11_viewByte yX11_viewByte, .code yX11_viewByte cX11_viewByte 2 (Option.some Jvm.ClassFile.FieldType.int), .methodLink RX11 373 yX1_at, .methodLink RL 207 yX11_storyLength, .instanceMethod yX11_storyLength, .selects RX11 yX11_storyLength yX11_storyLength, .code yX11_storyLength cX11_storyLength 1 (Option.some Jvm.ClassFile.FieldType.int), .methodLink RX11 376 yX6_writeStory, .instanceMethod yX6_writeStory, .selects RX6 yX6_writeStory yX6_writeStory, .code yX6_writeStory cX6_writeStory 4 (Option.some (Jvm.ClassFile.FieldType.object "StickVotes$Bytes")), .methodLink RX6 91 yX5_size, .methodLink RX6 96 yX5_oldest, .methodLink RX6 99 yX5_part, .methodLink RX6 106 yX6_kindWord, .static yX6_kindWord, .code yX6_kindWord cX6_kindWord 1 (Option.some (Jvm.ClassFile.FieldType.object "java/lang/String")), .methodLink RL 211 yX11_storyByte, .instanceMethod yX11_storyByte, .selects RX11 yX11_storyByte yX11_storyByte, .code yX11_storyByte cX11_storyByte 2 (Option.some Jvm.ClassFile.FieldType.int), .methodLink RL 215 yX11_setupLength, .instanceMethod yX11_setupLength, .selects RX11 yX11_setupLength yX11_setupLength]
set_option maxRecDepth 20000 in
theorem tt48_in : ∀ w ∈ tt48, w ∈ tables_1_6 := tt_sub [83, 84, 85, 86, 87, 88, 89, 90, 91, 92, 93, 94, 95, 96, 97, 98, 99, 100, 107, 108, 109, 110, 111, 112, 113] rfl
def tt49 : List Cond := [.code yX11_setupLength cX11_setupLength 1 (Option.some Jvm.ClassFile.FieldType.int), .methodLink RX11 380 yX6_writeSetup, .instanceMethod yX6_writeSetup, .selects RX6 yX6_writeSetup yX6_writeSetup, .code yX6_writeSetup cX6_writeSetup 4 (Option.some (Jvm.ClassFile.FieldType.object "StickVotes$Bytes")), .methodLink RX6 121 yX6_writeNumbers, .instanceMethod yX6_writeNumbers, .code yX6_writeNumbers cX6_writeNumbers 3 (Option.none : Option Jvm.ClassFile.FieldType), .methodLink RX6 139 yX7_numberOf, .methodLink RX6 125 yX7_boats, .methodLink RX6 130 yX7_boatName, .instanceMethod yX7_boatName, .selects RX7 yX7_boatName yX7_boatName, .code yX7_boatName cX7_boatName 2 (Option.some Jvm.ClassFile.FieldType.int), .methodLink RX6 133 yX6_writePerson, .instanceMethod yX6_writePerson, .code yX6_writePerson cX6_writePerson 5 (Option.none : Option Jvm.ClassFile.FieldType), .methodLink RX6 154 yX2_boatOf, .methodLink RL 219 yX11_setupByte, .instanceMethod yX11_setupByte, .selects RX11 yX11_setupByte yX11_setupByte, .code yX11_setupByte cX11_setupByte 2 (Option.some Jvm.ClassFile.FieldType.int), .methodLink RL 223 yX11_tapeLength, .instanceMethod yX11_tapeLength, .selects RX11 yX11_tapeLength yX11_tapeLength]
set_option maxRecDepth 20000 in
theorem tt49_in : ∀ w ∈ tt49, w ∈ tables_1_6 := tt_sub [114, 115, 116, 117, 118, 119, 121, 122, 124, 131, 133, 134, 135, 136, 137, 139, 140, 141, 144, 145, 146, 147, 148, 149, 150] rfl
def tt50 : List Cond := [.code yX11_tapeLength cX11_tapeLength 1 (Option.some Jvm.ClassFile.FieldType.int), .classLink RL 10 RX12, .instantiable RX12 30, .methodLink RL 12 yX12_init, .instanceMethod yX12_init, .code yX12_init cX12_init 2 (Option.none : Option Jvm.ClassFile.FieldType), .methodLink RX12 1 objectInit, .methodLink RX12 58 yX12_clear, .instanceMethod yX12_clear, .code yX12_clear cX12_clear 2 (Option.none : Option Jvm.ClassFile.FieldType), .methodLink RX12 61 yX12_sets, .instanceMethod yX12_sets, .code yX12_sets cX12_sets 4 (Option.none : Option Jvm.ClassFile.FieldType), .methodLink RX12 65 yX12_atHand, .instanceMethod yX12_atHand, .code yX12_atHand cX12_atHand 2 (Option.none : Option Jvm.ClassFile.FieldType), .methodLink RX12 88 yX12_isLaidNoMore, .instanceMethod yX12_isLaidNoMore, .code yX12_isLaidNoMore cX12_isLaidNoMore 2 (Option.none : Option Jvm.ClassFile.FieldType), .fieldLink RX12 7 "StickVotesModel" "tape" "[B", .fieldLink RX12 156 "StickVotesModel" "taped" "I", .fieldLink RX12 13 "StickVotesModel" "errorAt" "I", .fieldLink RX12 17 "StickVotesModel" "numbers" "[I", .fieldLink RX12 55 "StickVotesModel" "people" "I", .fieldLink RX12 76 "StickVotesModel" "boats" "I"]
set_option maxRecDepth 20000 in
theorem tt50_in : ∀ w ∈ tt50, w ∈ tables_1_6 := tt_sub [151, 152, 153, 154, 155, 156, 157, 158, 160, 161, 162, 164, 165, 166, 168, 169, 170, 172, 173, 174, 175, 176, 177, 178, 179] rfl
def tt51 : List Cond := [.fieldLink RX12 21 "StickVotesModel" "names" "[I", .fieldLink RX12 24 "StickVotesModel" "firstBoat" "[I", .fieldLink RX12 27 "StickVotesModel" "boatNames" "[I", .fieldLink RX12 30 "StickVotesModel" "world" "[I", .fieldLink RX12 33 "StickVotesModel" "undone" "[I", .fieldLink RX12 36 "StickVotesModel" "slots" "[I", .fieldLink RX12 39 "StickVotesModel" "isKept" "[Z", .fieldLink RX12 69 "StickVotesModel" "undos" "I", .fieldLink RX12 153 "StickVotesModel" "readAt" "I", .fieldLink RX12 190 "StickVotesModel" "start" "I", .fieldLink RX12 199 "StickVotesModel" "kind" "I", .fieldLink RX12 179 "StickVotesModel" "word" "J", .fieldLink RX12 202 "StickVotesModel" "value" "I", .fieldLink RX12 183 "StickVotesModel" "letters" "I", .fieldLink RX12 211 "StickVotesModel" "fine" "Z", .fieldLink RX12 239 "StickVotesModel" "newPeople" "I", .fieldLink RX12 232 "StickVotesModel" "newBoats" "I", .fieldLink RX12 43 "StickVotesModel" "newNumbers" "[I", .fieldLink RX12 46 "StickVotesModel" "newNames" "[I", .fieldLink RX12 49 "StickVotesModel" "newBoatOf" "[I", .fieldLink RX12 52 "StickVotesModel" "newBoatNames" "[I", .fieldLink RX12 337 "StickVotesModel" "outs" "I", .fieldLink RX12 340 "StickVotesModel" "wantedAt" "I", .fieldLink RX12 343 "StickVotesModel" "foundByte" "I", .laysFinal RX12 "StickVotesModel" "tape" "[B"]
set_option maxRecDepth 20000 in
theorem tt51_in : ∀ w ∈ tt51, w ∈ tables_1_6 := tt_sub [180, 181, 182, 183, 184, 185, 186, 187, 188, 189, 190, 191, 192, 193, 194, 195, 196, 197, 198, 199, 200, 201, 202, 203, 204] rfl
def tt52 : List Cond := [.lays RX12 "StickVotesModel" "taped" "I", .lays RX12 "StickVotesModel" "errorAt" "I", .laysFinal RX12 "StickVotesModel" "numbers" "[I", .lays RX12 "StickVotesModel" "people" "I", .lays RX12 "StickVotesModel" "boats" "I", .laysFinal RX12 "StickVotesModel" "names" "[I", .laysFinal RX12 "StickVotesModel" "firstBoat" "[I", .laysFinal RX12 "StickVotesModel" "boatNames" "[I", .laysFinal RX12 "StickVotesModel" "world" "[I", .laysFinal RX12 "StickVotesModel" "undone" "[I", .laysFinal RX12 "StickVotesModel" "slots" "[I", .laysFinal RX12 "StickVotesModel" "isKept" "[Z", .lays RX12 "StickVotesModel" "undos" "I", .lays RX12 "StickVotesModel" "readAt" "I", .lays RX12 "StickVotesModel" "start" "I", .lays RX12 "StickVotesModel" "kind" "I", .lays RX12 "StickVotesModel" "word" "J"]
set_option maxRecDepth 20000 in
theorem tt52_in : ∀ w ∈ tt52, w ∈ tables_1_6 := tt_sub [206, 208, 210, 212, 214, 216, 218, 220, 222, 224, 226, 228, 230, 232, 234, 236, 238] rfl
def tt53 : List Cond := [.lays RX12 "StickVotesModel" "value" "I", .lays RX12 "StickVotesModel" "letters" "I", .lays RX12 "StickVotesModel" "fine" "Z", .lays RX12 "StickVotesModel" "newPeople" "I", .lays RX12 "StickVotesModel" "newBoats" "I", .laysFinal RX12 "StickVotesModel" "newNumbers" "[I", .laysFinal RX12 "StickVotesModel" "newNames" "[I", .laysFinal RX12 "StickVotesModel" "newBoatOf" "[I", .laysFinal RX12 "StickVotesModel" "newBoatNames" "[I", .lays RX12 "StickVotesModel" "outs" "I", .lays RX12 "StickVotesModel" "wantedAt" "I", .lays RX12 "StickVotesModel" "foundByte" "I", .methodLink RL 17 yX12_append, .instanceMethod yX12_append, .selects RX12 yX12_append yX12_append, .code yX12_append cX12_append 6 (Option.some Jvm.ClassFile.FieldType.int), .methodLink RX12 251 yX12_feeds, .instanceMethod yX12_feeds, .code yX12_feeds cX12_feeds 3 (Option.none : Option Jvm.ClassFile.FieldType), .methodLink RL 22 yX12_truncate, .instanceMethod yX12_truncate, .selects RX12 yX12_truncate yX12_truncate, .code yX12_truncate cX12_truncate 2 (Option.some Jvm.ClassFile.FieldType.int), .methodLink RX12 72 yX12_in, .static yX12_in]
set_option maxRecDepth 20000 in
theorem tt53_in : ∀ w ∈ tt53, w ∈ tables_1_7 := tt_sub [0, 2, 4, 6, 8, 10, 12, 14, 16, 18, 20, 22, 25, 26, 27, 28, 29, 31, 32, 33, 34, 35, 36, 37, 38] rfl
def tt54 : List Cond := [.code yX12_in cX12_in 6 (Option.some Jvm.ClassFile.FieldType.boolean), .methodLink RL 27 yX12_load, .instanceMethod yX12_load, .selects RX12 yX12_load yX12_load, .code yX12_load cX12_load 2 (Option.some Jvm.ClassFile.FieldType.int), .methodLink RX12 254 yX12_readAll, .instanceMethod yX12_readAll, .code yX12_readAll cX12_readAll 1 (Option.none : Option Jvm.ClassFile.FieldType), .methodLink RX12 215 yX12_next, .instanceMethod yX12_next, .code yX12_next cX12_next 1 (Option.none : Option Jvm.ClassFile.FieldType), .methodLink RX12 186 yX12_isByte, .instanceMethod yX12_isByte, .code yX12_isByte cX12_isByte 3 (Option.some Jvm.ClassFile.FieldType.boolean), .methodLink RX12 205 yX12_nextWord, .instanceMethod yX12_nextWord, .code yX12_nextWord cX12_nextWord 3 (Option.none : Option Jvm.ClassFile.FieldType), .constantLong RX12 193 (32 : Int64), .methodLink RX12 195 yX12_isKey, .static yX12_isKey, .code yX12_isKey cX12_isKey 2 (Option.some Jvm.ClassFile.FieldType.boolean), .constantLong RX12 159 (642829806 : Int64), .constantLong RX12 161 (645974195 : Int64), .constantLong RX12 163 (398963 : Int64), .constantLong RX12 165 (12748404 : Int64)]
set_option maxRecDepth 20000 in
theorem tt54_in : ∀ w ∈ tt54, w ∈ tables_1_7 := tt_sub [39, 40, 41, 42, 43, 44, 46, 47, 48, 50, 51, 52, 54, 55, 56, 58, 59, 60, 61, 62, 63, 64, 65, 66, 67] rfl
def tt55 : List Cond := [.constantLong RX12 167 (3197529 : Int64), .constantLong RX12 169 (50861100 : Int64), .constantLong RX12 171 (623961094803 : Int64), .constantLong RX12 173 (80948 : Int64), .constantLong RX12 175 (542723566 : Int64), .constantLong RX12 177 (486 : Int64), .methodLink RX12 208 yX12_nextInt, .instanceMethod yX12_nextInt, .code yX12_nextInt cX12_nextInt 1 (Option.none : Option Jvm.ClassFile.FieldType), .methodLink RX12 242 yX12_readNumbers, .instanceMethod yX12_readNumbers, .code yX12_readNumbers cX12_readNumbers 2 (Option.none : Option Jvm.ClassFile.FieldType), .methodLink RX12 228 yX12_numberOf, .instanceMethod yX12_numberOf, .code yX12_numberOf cX12_numberOf 5 (Option.some Jvm.ClassFile.FieldType.int), .methodLink RX12 222 yX12_isWord, .instanceMethod yX12_isWord, .code yX12_isWord cX12_isWord 3 (Option.some Jvm.ClassFile.FieldType.boolean), .methodLink RX12 218 yX12_takes, .instanceMethod yX12_takes, .code yX12_takes cX12_takes 2 (Option.none : Option Jvm.ClassFile.FieldType), .methodLink RX12 225 yX12_number, .instanceMethod yX12_number, .code yX12_number cX12_number 4 (Option.some Jvm.ClassFile.FieldType.int), .methodLink RX12 245 yX12_readBoat]
set_option maxRecDepth 20000 in
theorem tt55_in : ∀ w ∈ tt55, w ∈ tables_1_7 := tt_sub [68, 69, 70, 71, 72, 73, 74, 76, 77, 78, 80, 81, 82, 84, 85, 86, 88, 89, 90, 92, 93, 94, 96, 97, 98] rfl
def tt56 : List Cond := [.instanceMethod yX12_readBoat, .code yX12_readBoat cX12_readBoat 3 (Option.none : Option Jvm.ClassFile.FieldType), .methodLink RX12 235 yX12_named, .instanceMethod yX12_named, .code yX12_named cX12_named 4 (Option.some Jvm.ClassFile.FieldType.int), .methodLink RX12 248 yX12_readPerson, .instanceMethod yX12_readPerson, .code yX12_readPerson cX12_readPerson 4 (Option.none : Option Jvm.ClassFile.FieldType), .methodLink RL 31 yX12_errorPosition, .instanceMethod yX12_errorPosition, .selects RX12 yX12_errorPosition yX12_errorPosition, .code yX12_errorPosition cX12_errorPosition 1 (Option.some Jvm.ClassFile.FieldType.int), .methodLink RL 93 yX12_undo, .instanceMethod yX12_undo, .selects RX12 yX12_undo yX12_undo, .code yX12_undo cX12_undo 2 (Option.some Jvm.ClassFile.FieldType.int), .methodLink RL 36 yX12_sail, .instanceMethod yX12_sail, .selects RX12 yX12_sail yX12_sail, .code yX12_sail cX12_sail 5 (Option.some Jvm.ClassFile.FieldType.int), .methodLink RX12 257 yX12_isBoat, .instanceMethod yX12_isBoat, .code yX12_isBoat cX12_isBoat 2 (Option.some Jvm.ClassFile.FieldType.boolean), .constantLong RX12 260 (99 : Int64), .methodLink RX12 106 yX12_isOut]
set_option maxRecDepth 20000 in
theorem tt56_in : ∀ w ∈ tt56, w ∈ tables_1_7 := tt_sub [100, 101, 102, 104, 105, 106, 108, 109, 110, 111, 112, 113, 114, 115, 116, 117, 118, 119, 120, 121, 122, 124, 125, 126, 127] rfl
def tt57 : List Cond := [.instanceMethod yX12_isOut, .code yX12_isOut cX12_isOut 2 (Option.some Jvm.ClassFile.FieldType.boolean), .methodLink RX12 85 yX12_ofBoat, .instanceMethod yX12_ofBoat, .code yX12_ofBoat cX12_ofBoat 3 (Option.some Jvm.ClassFile.FieldType.int), .methodLink RX12 262 yX12_keeps, .instanceMethod yX12_keeps, .code yX12_keeps cX12_keeps 2 (Option.none : Option Jvm.ClassFile.FieldType), .methodLink RX12 81 yX12_of, .instanceMethod yX12_of, .code yX12_of cX12_of 3 (Option.some Jvm.ClassFile.FieldType.int), .methodLink RX12 91 yX12_isAtSea, .instanceMethod yX12_isAtSea, .code yX12_isAtSea cX12_isAtSea 2 (Option.some Jvm.ClassFile.FieldType.boolean), .methodLink RX12 147 yX12_setsBoat, .instanceMethod yX12_setsBoat, .code yX12_setsBoat cX12_setsBoat 4 (Option.none : Option Jvm.ClassFile.FieldType), .methodLink RX12 138 yX12_tells, .instanceMethod yX12_tells, .code yX12_tells cX12_tells 5 (Option.none : Option Jvm.ClassFile.FieldType), .methodLink RL 40 yX12_delay, .instanceMethod yX12_delay, .selects RX12 yX12_delay yX12_delay, .code yX12_delay cX12_delay 3 (Option.some Jvm.ClassFile.FieldType.int), .methodLink RL 44 yX12_comeHome]
set_option maxRecDepth 20000 in
theorem tt57_in : ∀ w ∈ tt57, w ∈ tables_1_7 := tt_sub [129, 130, 131, 133, 134, 135, 137, 138, 139, 141, 142, 143, 145, 146, 147, 149, 150, 151, 153, 154, 155, 156, 157, 158, 159] rfl
def tt58 : List Cond := [.instanceMethod yX12_comeHome, .selects RX12 yX12_comeHome yX12_comeHome, .code yX12_comeHome cX12_comeHome 2 (Option.some Jvm.ClassFile.FieldType.int), .methodLink RX12 150 yX12_comesHome, .instanceMethod yX12_comesHome, .code yX12_comesHome cX12_comesHome 4 (Option.some Jvm.ClassFile.FieldType.int), .methodLink RL 48 yX12_join, .instanceMethod yX12_join, .selects RX12 yX12_join yX12_join, .code yX12_join cX12_join 4 (Option.some Jvm.ClassFile.FieldType.int), .methodLink RX12 265 yX12_isPerson, .instanceMethod yX12_isPerson, .code yX12_isPerson cX12_isPerson 2 (Option.some Jvm.ClassFile.FieldType.boolean), .methodLink RL 52 yX12_open, .instanceMethod yX12_open, .selects RX12 yX12_open yX12_open, .code yX12_open cX12_open 3 (Option.some Jvm.ClassFile.FieldType.int), .constantLong RX12 271 (2 : Int64), .constantLong RX12 273 (4 : Int64), .methodLink RX12 115 yX12_isOpen, .instanceMethod yX12_isOpen, .code yX12_isOpen cX12_isOpen 1 (Option.some Jvm.ClassFile.FieldType.boolean), .methodLink RX12 275 yX12_isBackFromVote, .instanceMethod yX12_isBackFromVote, .code yX12_isBackFromVote cX12_isBackFromVote 2 (Option.none : Option Jvm.ClassFile.FieldType)]
set_option maxRecDepth 20000 in
theorem tt58_in : ∀ w ∈ tt58, w ∈ tables_1_7 := tt_sub [160, 161, 162, 163, 165, 166, 167, 168, 169, 170, 171, 173, 174, 175, 176, 177, 178, 179, 180, 181, 183, 184, 185, 187, 188] rfl
def tt59 : List Cond := [.methodLink RX12 268 yX12_isLaid, .instanceMethod yX12_isLaid, .code yX12_isLaid cX12_isLaid 2 (Option.some Jvm.ClassFile.FieldType.boolean), .methodLink RL 57 yX12_give, .instanceMethod yX12_give, .selects RX12 yX12_give yX12_give, .code yX12_give cX12_give 4 (Option.some Jvm.ClassFile.FieldType.int), .methodLink RX12 278 yX12_isBasket, .static yX12_isBasket, .code yX12_isBasket cX12_isBasket 1 (Option.some Jvm.ClassFile.FieldType.boolean), .constantLong RX12 79 (3 : Int64), .methodLink RX12 281 yX12_carriedBy, .instanceMethod yX12_carriedBy, .code yX12_carriedBy cX12_carriedBy 4 (Option.some Jvm.ClassFile.FieldType.int), .methodLink RX12 103 yX12_ones, .static yX12_ones, .code yX12_ones cX12_ones 3 (Option.some Jvm.ClassFile.FieldType.int), .methodLink RL 61 yX12_takeBack, .instanceMethod yX12_takeBack, .selects RX12 yX12_takeBack yX12_takeBack, .code yX12_takeBack cX12_takeBack 4 (Option.some Jvm.ClassFile.FieldType.int), .methodLink RL 65 yX12_lay, .instanceMethod yX12_lay, .selects RX12 yX12_lay yX12_lay, .code yX12_lay cX12_lay 5 (Option.some Jvm.ClassFile.FieldType.int)]
set_option maxRecDepth 20000 in
theorem tt59_in : ∀ w ∈ tt59, w ∈ tables_1_7 := tt_sub [189, 191, 192, 193, 194, 195, 196, 197, 198, 199, 200, 201, 203, 204, 205, 206, 207, 208, 209, 210, 211, 212, 213, 214, 215] rfl
def tt60 : List Cond := [.methodLink RX12 291 yX12_would, .instanceMethod yX12_would, .code yX12_would cX12_would 4 (Option.some Jvm.ClassFile.FieldType.int), .methodLink RX12 284 yX12_has, .instanceMethod yX12_has, .code yX12_has cX12_has 3 (Option.some Jvm.ClassFile.FieldType.boolean), .methodLink RX12 287 yX12_wrongBy, .instanceMethod yX12_wrongBy, .code yX12_wrongBy cX12_wrongBy 5 (Option.some Jvm.ClassFile.FieldType.int), .methodLink RX12 95 yX12_setIn, .instanceMethod yX12_setIn, .code yX12_setIn cX12_setIn 4 (Option.some Jvm.ClassFile.FieldType.int), .methodLink RL 69 yX12_contest, .instanceMethod yX12_contest, .selects RX12 yX12_contest yX12_contest, .code yX12_contest cX12_contest 4 (Option.some Jvm.ClassFile.FieldType.int), .methodLink RX12 294 yX12_isInTime, .instanceMethod yX12_isInTime, .code yX12_isInTime cX12_isInTime 1 (Option.some Jvm.ClassFile.FieldType.boolean)]
set_option maxRecDepth 20000 in
theorem tt60_in : ∀ w ∈ tt60, w ∈ tables_1_7 := tt_sub [216, 218, 219, 220, 222, 223, 224, 226, 227, 228, 230, 231, 232, 233, 234, 235, 236, 238, 239] rfl
def tt61 : List Cond := [.methodLink RX12 119 yX12_isClosed, .instanceMethod yX12_isClosed, .code yX12_isClosed cX12_isClosed 1 (Option.some Jvm.ClassFile.FieldType.boolean), .methodLink RX12 297 yX12_strikes, .instanceMethod yX12_strikes, .code yX12_strikes cX12_strikes 4 (Option.none : Option Jvm.ClassFile.FieldType), .methodLink RX12 135 yX12_resultNow, .instanceMethod yX12_resultNow, .code yX12_resultNow cX12_resultNow 1 (Option.some Jvm.ClassFile.FieldType.int), .methodLink RX12 125 yX12_needNow, .instanceMethod yX12_needNow, .code yX12_needNow cX12_needNow 1 (Option.some Jvm.ClassFile.FieldType.int), .methodLink RX12 122 yX12_needIn0, .instanceMethod yX12_needIn0, .code yX12_needIn0 cX12_needIn0 3 (Option.some Jvm.ClassFile.FieldType.int), .methodLink RX12 109 yX12_outOn, .instanceMethod yX12_outOn, .code yX12_outOn cX12_outOn 4 (Option.some Jvm.ClassFile.FieldType.int), .methodLink RX12 112 yX12_needOn, .instanceMethod yX12_needOn, .code yX12_needOn cX12_needOn 5 (Option.some Jvm.ClassFile.FieldType.int), .methodLink RX12 128 yX12_resultOf, .instanceMethod yX12_resultOf, .code yX12_resultOf cX12_resultOf 11 (Option.some Jvm.ClassFile.FieldType.int), .methodLink RX12 141 yX12_keepsPast]
set_option maxRecDepth 20000 in
theorem tt61_in : ∀ w ∈ tt61, w ∈ tables_1_8 := tt_sub [0, 2, 3, 4, 6, 7, 8, 10, 11, 12, 14, 15, 16, 18, 19, 20, 22, 23, 24, 26, 27, 28, 30, 31, 32] rfl
def tt62 : List Cond := [.instanceMethod yX12_keepsPast, .code yX12_keepsPast cX12_keepsPast 2 (Option.none : Option Jvm.ClassFile.FieldType), .methodLink RX12 132 yX12_turnout, .instanceMethod yX12_turnout, .code yX12_turnout cX12_turnout 1 (Option.some Jvm.ClassFile.FieldType.int), .methodLink RX12 99 yX12_allLaid, .instanceMethod yX12_allLaid, .code yX12_allLaid cX12_allLaid 3 (Option.some Jvm.ClassFile.FieldType.int), .methodLink RX12 144 yX12_orMinus, .static yX12_orMinus, .code yX12_orMinus cX12_orMinus 1 (Option.some Jvm.ClassFile.FieldType.int), .methodLink RL 73 yX12_close, .instanceMethod yX12_close, .selects RX12 yX12_close yX12_close, .code yX12_close cX12_close 1 (Option.some Jvm.ClassFile.FieldType.int), .methodLink RL 77 yX12_recount, .instanceMethod yX12_recount, .selects RX12 yX12_recount yX12_recount, .code yX12_recount cX12_recount 2 (Option.some Jvm.ClassFile.FieldType.int), .methodLink RX12 300 yX12_wrongSet, .instanceMethod yX12_wrongSet, .code yX12_wrongSet cX12_wrongSet 3 (Option.some Jvm.ClassFile.FieldType.int), .methodLink RL 81 yX12_pass, .instanceMethod yX12_pass, .selects RX12 yX12_pass yX12_pass]
set_option maxRecDepth 20000 in
theorem tt62_in : ∀ w ∈ tt62, w ∈ tables_1_8 := tt_sub [34, 35, 36, 38, 39, 40, 42, 43, 44, 45, 46, 47, 48, 49, 50, 51, 52, 53, 54, 55, 57, 58, 59, 60, 61] rfl
def tt63 : List Cond := [.code yX12_pass cX12_pass 4 (Option.some Jvm.ClassFile.FieldType.int), .methodLink RX12 303 yX12_passes, .instanceMethod yX12_passes, .code yX12_passes cX12_passes 3 (Option.some Jvm.ClassFile.FieldType.int), .methodLink RL 85 yX12_keep, .instanceMethod yX12_keep, .selects RX12 yX12_keep yX12_keep, .code yX12_keep cX12_keep 3 (Option.some Jvm.ClassFile.FieldType.int), .methodLink RL 89 yX12_restore, .instanceMethod yX12_restore, .selects RX12 yX12_restore yX12_restore, .code yX12_restore cX12_restore 3 (Option.some Jvm.ClassFile.FieldType.int), .methodLink RL 97 yX12_value, .instanceMethod yX12_value, .selects RX12 yX12_value yX12_value, .code yX12_value cX12_value 2 (Option.some Jvm.ClassFile.FieldType.int), .methodLink RX12 306 yX12_atSeaMany, .instanceMethod yX12_atSeaMany, .code yX12_atSeaMany cX12_atSeaMany 3 (Option.some Jvm.ClassFile.FieldType.int), .methodLink RX12 309 yX12_stateOf, .instanceMethod yX12_stateOf, .code yX12_stateOf cX12_stateOf 1 (Option.some Jvm.ClassFile.FieldType.int), .methodLink RX12 312 yX12_struckMany, .instanceMethod yX12_struckMany, .code yX12_struckMany cX12_struckMany 3 (Option.some Jvm.ClassFile.FieldType.int)]
set_option maxRecDepth 20000 in
theorem tt63_in : ∀ w ∈ tt63, w ∈ tables_1_8 := tt_sub [62, 63, 65, 66, 67, 68, 69, 70, 71, 72, 73, 74, 75, 76, 77, 78, 79, 81, 82, 83, 85, 86, 87, 89, 90] rfl
def tt64 : List Cond := [.methodLink RL 101 yX12_person, .instanceMethod yX12_person, .selects RX12 yX12_person yX12_person, .code yX12_person cX12_person 3 (Option.some Jvm.ClassFile.FieldType.int), .methodLink RL 105 yX12_boat, .instanceMethod yX12_boat, .selects RX12 yX12_boat yX12_boat, .code yX12_boat cX12_boat 3 (Option.some Jvm.ClassFile.FieldType.int), .methodLink RX12 315 yX12_manyOf, .instanceMethod yX12_manyOf, .code yX12_manyOf cX12_manyOf 5 (Option.some Jvm.ClassFile.FieldType.int), .methodLink RL 109 yX12_stick, .instanceMethod yX12_stick, .selects RX12 yX12_stick yX12_stick, .code yX12_stick cX12_stick 3 (Option.some Jvm.ClassFile.FieldType.int), .constantLong RX12 318 (5 : Int64), .methodLink RL 113 yX12_basket, .instanceMethod yX12_basket, .selects RX12 yX12_basket yX12_basket, .code yX12_basket cX12_basket 2 (Option.some Jvm.ClassFile.FieldType.int), .methodLink RL 117 yX12_number_, .instanceMethod yX12_number_, .selects RX12 yX12_number_ yX12_number_, .code yX12_number_ cX12_number_ 2 (Option.some Jvm.ClassFile.FieldType.int), .constantLong RX12 320 (9 : Int64)]
set_option maxRecDepth 20000 in
theorem tt64_in : ∀ w ∈ tt64, w ∈ tables_1_8 := tt_sub [91, 92, 93, 94, 95, 96, 97, 98, 99, 101, 102, 103, 104, 105, 106, 107, 108, 109, 110, 111, 112, 113, 114, 115, 116] rfl
def tt65 : List Cond := [.methodLink RL 121 yX12_past, .instanceMethod yX12_past, .selects RX12 yX12_past yX12_past, .code yX12_past cX12_past 4 (Option.some Jvm.ClassFile.FieldType.int), .methodLink RL 125 yX12_log, .instanceMethod yX12_log, .selects RX12 yX12_log yX12_log, .code yX12_log cX12_log 3 (Option.some Jvm.ClassFile.FieldType.int), .methodLink RL 130 yX12_named_, .instanceMethod yX12_named_, .selects RX12 yX12_named_ yX12_named_, .code yX12_named_ cX12_named_ 4 (Option.some Jvm.ClassFile.FieldType.int), .methodLink RX12 322 yX12_isName, .static yX12_isName, .code yX12_isName cX12_isName 5 (Option.some Jvm.ClassFile.FieldType.boolean), .methodLink RL 134 yX12_owners, .instanceMethod yX12_owners, .selects RX12 yX12_owners yX12_owners, .code yX12_owners cX12_owners 2 (Option.some Jvm.ClassFile.FieldType.int), .methodLink RL 138 yX12_carries, .instanceMethod yX12_carries, .selects RX12 yX12_carries yX12_carries, .code yX12_carries cX12_carries 2 (Option.some Jvm.ClassFile.FieldType.int), .methodLink RL 142 yX12_wrongOnes, .instanceMethod yX12_wrongOnes]
set_option maxRecDepth 20000 in
theorem tt65_in : ∀ w ∈ tt65, w ∈ tables_1_8 := tt_sub [117, 118, 119, 120, 121, 122, 123, 124, 125, 126, 127, 128, 129, 130, 131, 132, 133, 134, 135, 136, 137, 138, 139, 140, 141] rfl
def tt66 : List Cond := [.selects RX12 yX12_wrongOnes yX12_wrongOnes, .code yX12_wrongOnes cX12_wrongOnes 1 (Option.some Jvm.ClassFile.FieldType.int), .methodLink RL 146 yX12_why, .instanceMethod yX12_why, .selects RX12 yX12_why yX12_why, .code yX12_why cX12_why 4 (Option.some Jvm.ClassFile.FieldType.int), .methodLink RL 150 yX12_needIfHome, .instanceMethod yX12_needIfHome, .selects RX12 yX12_needIfHome yX12_needIfHome, .code yX12_needIfHome cX12_needIfHome 2 (Option.some Jvm.ClassFile.FieldType.int), .methodLink RL 154 yX12_leads, .instanceMethod yX12_leads, .selects RX12 yX12_leads yX12_leads, .code yX12_leads cX12_leads 1 (Option.some Jvm.ClassFile.FieldType.int), .methodLink RL 158 yX12_truly, .instanceMethod yX12_truly, .selects RX12 yX12_truly yX12_truly, .code yX12_truly cX12_truly 1 (Option.some Jvm.ClassFile.FieldType.int), .methodLink RL 163 yX12_canWin, .instanceMethod yX12_canWin, .selects RX12 yX12_canWin yX12_canWin, .code yX12_canWin cX12_canWin 4 (Option.some Jvm.ClassFile.FieldType.boolean), .methodLink RX12 325 yX12_couldBeLaid, .instanceMethod yX12_couldBeLaid, .code yX12_couldBeLaid cX12_couldBeLaid 3 (Option.some Jvm.ClassFile.FieldType.boolean)]
set_option maxRecDepth 20000 in
theorem tt66_in : ∀ w ∈ tt66, w ∈ tables_1_8 := tt_sub [142, 143, 144, 145, 146, 147, 148, 149, 150, 151, 152, 153, 154, 155, 156, 157, 158, 159, 160, 161, 162, 163, 164, 166, 167] rfl
def tt67 : List Cond := [.methodLink RL 167 yX12_decisive, .instanceMethod yX12_decisive, .selects RX12 yX12_decisive yX12_decisive, .code yX12_decisive cX12_decisive 5 (Option.some Jvm.ClassFile.FieldType.int), .methodLink RL 171 yX12_lacks, .instanceMethod yX12_lacks, .selects RX12 yX12_lacks yX12_lacks, .code yX12_lacks cX12_lacks 2 (Option.some Jvm.ClassFile.FieldType.int), .methodLink RL 175 yX12_needIn, .instanceMethod yX12_needIn, .selects RX12 yX12_needIn yX12_needIn, .code yX12_needIn cX12_needIn 2 (Option.some Jvm.ClassFile.FieldType.int), .constantLong RX12 328 (999 : Int64), .methodLink RL 179 yX12_bestDay, .instanceMethod yX12_bestDay, .selects RX12 yX12_bestDay yX12_bestDay, .code yX12_bestDay cX12_bestDay 6 (Option.some Jvm.ClassFile.FieldType.int), .methodLink RX12 330 yX12_ashoreOn, .instanceMethod yX12_ashoreOn, .code yX12_ashoreOn cX12_ashoreOn 4 (Option.some Jvm.ClassFile.FieldType.int), .methodLink RL 183 yX12_mightiest, .instanceMethod yX12_mightiest, .selects RX12 yX12_mightiest yX12_mightiest, .code yX12_mightiest cX12_mightiest 4 (Option.some Jvm.ClassFile.FieldType.int), .methodLink RX12 333 yX12_mightOf]
set_option maxRecDepth 20000 in
theorem tt67_in : ∀ w ∈ tt67, w ∈ tables_1_8 := tt_sub [168, 169, 170, 171, 172, 173, 174, 175, 176, 177, 178, 179, 180, 181, 182, 183, 184, 185, 187, 188, 189, 190, 191, 192, 193] rfl
def tt68 : List Cond := [.instanceMethod yX12_mightOf, .code yX12_mightOf cX12_mightOf 5 (Option.some Jvm.ClassFile.FieldType.int), .methodLink RL 188 yX12_agrees, .instanceMethod yX12_agrees, .selects RX12 yX12_agrees yX12_agrees, .code yX12_agrees cX12_agrees 1 (Option.some Jvm.ClassFile.FieldType.boolean), .methodLink RL 193 yX12_share, .instanceMethod yX12_share, .selects RX12 yX12_share yX12_share, .code yX12_share cX12_share 3 (Option.some Jvm.ClassFile.FieldType.float), .constantFloat RX12 336 (3212836864 : UInt32), .methodLink RL 198 yX12_seafaring, .instanceMethod yX12_seafaring, .selects RX12 yX12_seafaring yX12_seafaring, .code yX12_seafaring cX12_seafaring 3 (Option.some Jvm.ClassFile.FieldType.double), .methodLink RL 202 yX12_viewLength, .instanceMethod yX12_viewLength, .selects RX12 yX12_viewLength yX12_viewLength, .code yX12_viewLength cX12_viewLength 1 (Option.some Jvm.ClassFile.FieldType.int), .methodLink RX12 372 yX12_saysView, .instanceMethod yX12_saysView, .code yX12_saysView cX12_saysView 3 (Option.none : Option Jvm.ClassFile.FieldType), .methodLink RX12 366 yX12_startsText, .instanceMethod yX12_startsText, .code yX12_startsText cX12_startsText 2 (Option.none : Option Jvm.ClassFile.FieldType)]
set_option maxRecDepth 20000 in
theorem tt68_in : ∀ w ∈ tt68, w ∈ tables_1_8 := tt_sub [195, 196, 197, 198, 199, 200, 201, 202, 203, 204, 205, 206, 207, 208, 209, 210, 211, 212, 213, 214, 216, 217, 218, 220, 221] rfl
def tt69 : List Cond := [.methodLink RX12 369 yX12_saysPerson, .instanceMethod yX12_saysPerson, .code yX12_saysPerson cX12_saysPerson 3 (Option.none : Option Jvm.ClassFile.FieldType), .methodLink RX12 351 yX12_saysWord, .instanceMethod yX12_saysWord, .code yX12_saysWord cX12_saysWord 5 (Option.none : Option Jvm.ClassFile.FieldType), .constantLong RX12 346 (31 : Int64), .methodLink RX12 348 yX12_says, .instanceMethod yX12_says, .code yX12_says cX12_says 2 (Option.none : Option Jvm.ClassFile.FieldType), .constantLong RX12 355 (263620 : Int64), .constantLong RX12 357 (763528 : Int64), .constantLong RX12 359 (394532 : Int64), .constantLong RX12 361 (659117163 : Int64), .methodLink RX12 363 yX12_saysNumber]
set_option maxRecDepth 20000 in
theorem tt69_in : ∀ w ∈ tt69, w ∈ tables_1_8 := tt_sub [222, 224, 225, 226, 228, 229, 230, 231, 233, 234, 235, 236, 237, 238, 239] rfl
def tt70 : List Cond := [.instanceMethod yX12_saysNumber, .code yX12_saysNumber cX12_saysNumber 4 (Option.none : Option Jvm.ClassFile.FieldType), .methodLink RL 206 yX12_viewByte, .instanceMethod yX12_viewByte, .selects RX12 yX12_viewByte yX12_viewByte, .code yX12_viewByte cX12_viewByte 2 (Option.some Jvm.ClassFile.FieldType.int), .methodLink RL 210 yX12_storyLength, .instanceMethod yX12_storyLength, .selects RX12 yX12_storyLength yX12_storyLength, .code yX12_storyLength cX12_storyLength 1 (Option.some Jvm.ClassFile.FieldType.int), .methodLink RX12 391 yX12_saysStory, .instanceMethod yX12_saysStory, .code yX12_saysStory cX12_saysStory 4 (Option.none : Option Jvm.ClassFile.FieldType), .methodLink RX12 387 yX12_wordOfLog, .static yX12_wordOfLog, .code yX12_wordOfLog cX12_wordOfLog 1 (Option.some Jvm.ClassFile.FieldType.long), .constantLong RX12 375 (19965331 : Int64), .constantLong RX12 377 (277925 : Int64), .constantLong RX12 379 (16258515 : Int64), .constantLong RX12 381 (6346132 : Int64), .constantLong RX12 383 (113757348 : Int64), .constantLong RX12 385 (21678547 : Int64), .methodLink RL 214 yX12_storyByte, .instanceMethod yX12_storyByte, .selects RX12 yX12_storyByte yX12_storyByte]
set_option maxRecDepth 20000 in
theorem tt70_in : ∀ w ∈ tt70, w ∈ tables_1_9 := tt_sub [1, 2, 3, 4, 5, 6, 7, 8, 9, 10, 11, 13, 14, 15, 16, 17, 18, 19, 20, 21, 22, 23, 24, 25, 26] rfl
def tt71 : List Cond := [.code yX12_storyByte cX12_storyByte 2 (Option.some Jvm.ClassFile.FieldType.int), .methodLink RL 218 yX12_setupLength, .instanceMethod yX12_setupLength, .selects RX12 yX12_setupLength yX12_setupLength, .code yX12_setupLength cX12_setupLength 1 (Option.some Jvm.ClassFile.FieldType.int), .methodLink RX12 401 yX12_saysSetup, .instanceMethod yX12_saysSetup, .code yX12_saysSetup cX12_saysSetup 3 (Option.none : Option Jvm.ClassFile.FieldType), .methodLink RX12 398 yX12_saysNumbers, .instanceMethod yX12_saysNumbers, .code yX12_saysNumbers cX12_saysNumbers 2 (Option.none : Option Jvm.ClassFile.FieldType), .methodLink RX12 394 yX12_saysPair, .instanceMethod yX12_saysPair, .code yX12_saysPair cX12_saysPair 5 (Option.none : Option Jvm.ClassFile.FieldType), .methodLink RL 222 yX12_setupByte, .instanceMethod yX12_setupByte, .selects RX12 yX12_setupByte yX12_setupByte, .code yX12_setupByte cX12_setupByte 2 (Option.some Jvm.ClassFile.FieldType.int), .methodLink RL 226 yX12_tapeLength, .instanceMethod yX12_tapeLength, .selects RX12 yX12_tapeLength yX12_tapeLength, .code yX12_tapeLength cX12_tapeLength 1 (Option.some Jvm.ClassFile.FieldType.int), .fieldLink RJ0 9 "java/lang/String" "value" "[B", .fieldLink RJ0 15 "java/lang/String" "coder" "B"]
set_option maxRecDepth 20000 in
theorem tt71_in : ∀ w ∈ tt71, w ∈ tables_1_9 := tt_sub [27, 28, 29, 30, 31, 32, 34, 35, 36, 38, 39, 40, 42, 43, 44, 45, 46, 47, 48, 49, 50, 51, 52, 53] rfl
def ts0 : List Cond := [.selects RX4 yX4_advance yX4_advance, .selects RX4 yX4_readNumbers yX4_readNumbers, .selects RX4 yX4_skipKeyword yX4_skipKeyword, .selects RX4 yX4_isKeyword yX4_isKeyword, .selects RX4 yX4_reads yX4_reads, .selects RX4 yX4_readNumber yX4_readNumber, .selects RX4 yX4_digits yX4_digits, .selects RX4 yX4_readShares yX4_readShares, .selects RX4 yX4_skipSemicolon yX4_skipSemicolon, .selects RX4 yX4_readBoats yX4_readBoats, .selects RX4 yX4_isName yX4_isName, .selects RX4 yX4_isAnyKeyword yX4_isAnyKeyword, .selects RX4 yX4_letters yX4_letters, .selects RX4 yX4_readPeople yX4_readPeople, .selects RX4 yX4_readPerson yX4_readPerson, .selects RX11 yX11_isBoat yX11_isBoat, .selects RX5 yX5_placeOf yX5_placeOf, .selects RX11 yX11_isPerson yX11_isPerson, .selects RX10 yX10_latestVote yX10_latestVote, .selects RX11 yX11_refusalToLay yX11_refusalToLay, .selects RX10 yX10_resultFor yX10_resultFor, .selects RX0 yX0_countAll yX0_countAll, .selects RX10 yX10_strike yX10_strike, .selects RX10 yX10_correctResult yX10_correctResult, .selects RX9 yX9_countAt yX9_countAt]
set_option maxRecDepth 20000 in
theorem ts0_in : ∀ w ∈ ts0, w ∈ k2_sels lw_privs := tt_sub [0, 1, 2, 3, 4, 5, 6, 7, 8, 9, 10, 11, 12, 13, 14, 15, 16, 17, 18, 19, 20, 21, 22, 23, 24] rfl
def ts1 : List Cond := [.selects RX10 yX10_bringHomeTodays yX10_bringHomeTodays, .selects RX11 yX11_isSlot yX11_isSlot, .selects RX10 yX10_canBeLaid yX10_canBeLaid, .selects RX10 yX10_surplusBehind yX10_surplusBehind, .selects RX10 yX10_mightOf yX10_mightOf, .selects RX6 yX6_writeStick yX6_writeStick, .selects RX6 yX6_writeNumber yX6_writeNumber, .selects RX6 yX6_writeNumbers yX6_writeNumbers, .selects RX6 yX6_writePerson yX6_writePerson, .selects RX12 yX12_clear yX12_clear, .selects RX12 yX12_sets yX12_sets, .selects RX12 yX12_atHand yX12_atHand, .selects RX12 yX12_isLaidNoMore yX12_isLaidNoMore, .selects RX12 yX12_feeds yX12_feeds, .selects RX12 yX12_readAll yX12_readAll, .selects RX12 yX12_next yX12_next, .selects RX12 yX12_isByte yX12_isByte, .selects RX12 yX12_nextWord yX12_nextWord, .selects RX12 yX12_nextInt yX12_nextInt, .selects RX12 yX12_readNumbers yX12_readNumbers, .selects RX12 yX12_numberOf yX12_numberOf, .selects RX12 yX12_isWord yX12_isWord, .selects RX12 yX12_takes yX12_takes, .selects RX12 yX12_number yX12_number, .selects RX12 yX12_readBoat yX12_readBoat]
set_option maxRecDepth 20000 in
theorem ts1_in : ∀ w ∈ ts1, w ∈ k2_sels lw_privs := tt_sub [25, 26, 27, 28, 29, 30, 31, 32, 33, 34, 35, 36, 37, 38, 39, 40, 41, 42, 43, 44, 45, 46, 47, 48, 49] rfl
def ts2 : List Cond := [.selects RX12 yX12_named yX12_named, .selects RX12 yX12_readPerson yX12_readPerson, .selects RX12 yX12_isBoat yX12_isBoat, .selects RX12 yX12_isOut yX12_isOut, .selects RX12 yX12_ofBoat yX12_ofBoat, .selects RX12 yX12_keeps yX12_keeps, .selects RX12 yX12_of yX12_of, .selects RX12 yX12_isAtSea yX12_isAtSea, .selects RX12 yX12_setsBoat yX12_setsBoat, .selects RX12 yX12_tells yX12_tells, .selects RX12 yX12_comesHome yX12_comesHome, .selects RX12 yX12_isPerson yX12_isPerson, .selects RX12 yX12_isOpen yX12_isOpen, .selects RX12 yX12_isBackFromVote yX12_isBackFromVote, .selects RX12 yX12_isLaid yX12_isLaid, .selects RX12 yX12_carriedBy yX12_carriedBy, .selects RX12 yX12_would yX12_would, .selects RX12 yX12_has yX12_has, .selects RX12 yX12_wrongBy yX12_wrongBy, .selects RX12 yX12_setIn yX12_setIn, .selects RX12 yX12_isInTime yX12_isInTime, .selects RX12 yX12_isClosed yX12_isClosed, .selects RX12 yX12_strikes yX12_strikes, .selects RX12 yX12_resultNow yX12_resultNow, .selects RX12 yX12_needNow yX12_needNow]
set_option maxRecDepth 20000 in
theorem ts2_in : ∀ w ∈ ts2, w ∈ k2_sels lw_privs := tt_sub [50, 51, 52, 53, 54, 55, 56, 57, 58, 59, 60, 61, 62, 63, 64, 65, 66, 67, 68, 69, 70, 71, 72, 73, 74] rfl
def ts3 : List Cond := [.selects RX12 yX12_needIn0 yX12_needIn0, .selects RX12 yX12_outOn yX12_outOn, .selects RX12 yX12_needOn yX12_needOn, .selects RX12 yX12_resultOf yX12_resultOf, .selects RX12 yX12_keepsPast yX12_keepsPast, .selects RX12 yX12_turnout yX12_turnout, .selects RX12 yX12_allLaid yX12_allLaid, .selects RX12 yX12_wrongSet yX12_wrongSet, .selects RX12 yX12_passes yX12_passes, .selects RX12 yX12_atSeaMany yX12_atSeaMany, .selects RX12 yX12_stateOf yX12_stateOf, .selects RX12 yX12_struckMany yX12_struckMany, .selects RX12 yX12_manyOf yX12_manyOf, .selects RX12 yX12_couldBeLaid yX12_couldBeLaid, .selects RX12 yX12_ashoreOn yX12_ashoreOn, .selects RX12 yX12_mightOf yX12_mightOf, .selects RX12 yX12_saysView yX12_saysView, .selects RX12 yX12_startsText yX12_startsText, .selects RX12 yX12_saysPerson yX12_saysPerson, .selects RX12 yX12_saysWord yX12_saysWord, .selects RX12 yX12_says yX12_says, .selects RX12 yX12_saysNumber yX12_saysNumber, .selects RX12 yX12_saysStory yX12_saysStory, .selects RX12 yX12_saysSetup yX12_saysSetup, .selects RX12 yX12_saysNumbers yX12_saysNumbers]
set_option maxRecDepth 20000 in
theorem ts3_in : ∀ w ∈ ts3, w ∈ k2_sels lw_privs := tt_sub [75, 76, 77, 78, 79, 80, 81, 82, 83, 84, 85, 86, 87, 88, 89, 90, 91, 92, 93, 94, 95, 96, 97, 98, 99] rfl
def ts4 : List Cond := [.selects RX12 yX12_saysPair yX12_saysPair]
set_option maxRecDepth 20000 in
theorem ts4_in : ∀ w ∈ ts4, w ∈ k2_sels lw_privs := tt_sub [100] rfl
def lw_all : List Cond := ((((((tt0 ++ tt1) ++ (tt2 ++ tt3)) ++ ((tt4 ++ tt5) ++ (tt6 ++ (tt7 ++ tt8)))) ++ (((tt9 ++ tt10) ++ (tt11 ++ (tt12 ++ tt13))) ++ ((tt14 ++ tt15) ++ (tt16 ++ (tt17 ++ tt18))))) ++ ((((tt19 ++ tt20) ++ (tt21 ++ tt22)) ++ ((tt23 ++ tt24) ++ (tt25 ++ (tt26 ++ tt27)))) ++ (((tt28 ++ tt29) ++ (tt30 ++ (tt31 ++ tt32))) ++ ((tt33 ++ tt34) ++ (tt35 ++ (tt36 ++ tt37)))))) ++ (((((tt38 ++ tt39) ++ (tt40 ++ tt41)) ++ ((tt42 ++ tt43) ++ (tt44 ++ (tt45 ++ tt46)))) ++ (((tt47 ++ tt48) ++ (tt49 ++ (tt50 ++ tt51))) ++ ((tt52 ++ tt53) ++ (tt54 ++ (tt55 ++ tt56))))) ++ ((((tt57 ++ tt58) ++ (tt59 ++ (tt60 ++ tt61))) ++ ((tt62 ++ tt63) ++ (tt64 ++ (tt65 ++ tt66)))) ++ (((tt67 ++ tt68) ++ (tt69 ++ (tt70 ++ tt71))) ++ ((ts0 ++ ts1) ++ (ts2 ++ (ts3 ++ ts4)))))))
theorem tt0_all : ∀ w ∈ tt0, w ∈ lw_all := fun w h => List.mem_append_left _ (List.mem_append_left _ (List.mem_append_left _ (List.mem_append_left _ (List.mem_append_left _ (List.mem_append_left _ (h))))))
theorem tt1_all : ∀ w ∈ tt1, w ∈ lw_all := fun w h => List.mem_append_left _ (List.mem_append_left _ (List.mem_append_left _ (List.mem_append_left _ (List.mem_append_left _ (List.mem_append_right _ (h))))))
theorem tt2_all : ∀ w ∈ tt2, w ∈ lw_all := fun w h => List.mem_append_left _ (List.mem_append_left _ (List.mem_append_left _ (List.mem_append_left _ (List.mem_append_right _ (List.mem_append_left _ (h))))))
theorem tt3_all : ∀ w ∈ tt3, w ∈ lw_all := fun w h => List.mem_append_left _ (List.mem_append_left _ (List.mem_append_left _ (List.mem_append_left _ (List.mem_append_right _ (List.mem_append_right _ (h))))))
theorem tt4_all : ∀ w ∈ tt4, w ∈ lw_all := fun w h => List.mem_append_left _ (List.mem_append_left _ (List.mem_append_left _ (List.mem_append_right _ (List.mem_append_left _ (List.mem_append_left _ (h))))))
theorem tt5_all : ∀ w ∈ tt5, w ∈ lw_all := fun w h => List.mem_append_left _ (List.mem_append_left _ (List.mem_append_left _ (List.mem_append_right _ (List.mem_append_left _ (List.mem_append_right _ (h))))))
theorem tt6_all : ∀ w ∈ tt6, w ∈ lw_all := fun w h => List.mem_append_left _ (List.mem_append_left _ (List.mem_append_left _ (List.mem_append_right _ (List.mem_append_right _ (List.mem_append_left _ (h))))))
theorem tt7_all : ∀ w ∈ tt7, w ∈ lw_all := fun w h => List.mem_append_left _ (List.mem_append_left _ (List.mem_append_left _ (List.mem_append_right _ (List.mem_append_right _ (List.mem_append_right _ (List.mem_append_left _ (h)))))))
theorem tt8_all : ∀ w ∈ tt8, w ∈ lw_all := fun w h => List.mem_append_left _ (List.mem_append_left _ (List.mem_append_left _ (List.mem_append_right _ (List.mem_append_right _ (List.mem_append_right _ (List.mem_append_right _ (h)))))))
theorem tt9_all : ∀ w ∈ tt9, w ∈ lw_all := fun w h => List.mem_append_left _ (List.mem_append_left _ (List.mem_append_right _ (List.mem_append_left _ (List.mem_append_left _ (List.mem_append_left _ (h))))))
theorem tt10_all : ∀ w ∈ tt10, w ∈ lw_all := fun w h => List.mem_append_left _ (List.mem_append_left _ (List.mem_append_right _ (List.mem_append_left _ (List.mem_append_left _ (List.mem_append_right _ (h))))))
theorem tt11_all : ∀ w ∈ tt11, w ∈ lw_all := fun w h => List.mem_append_left _ (List.mem_append_left _ (List.mem_append_right _ (List.mem_append_left _ (List.mem_append_right _ (List.mem_append_left _ (h))))))
theorem tt12_all : ∀ w ∈ tt12, w ∈ lw_all := fun w h => List.mem_append_left _ (List.mem_append_left _ (List.mem_append_right _ (List.mem_append_left _ (List.mem_append_right _ (List.mem_append_right _ (List.mem_append_left _ (h)))))))
theorem tt13_all : ∀ w ∈ tt13, w ∈ lw_all := fun w h => List.mem_append_left _ (List.mem_append_left _ (List.mem_append_right _ (List.mem_append_left _ (List.mem_append_right _ (List.mem_append_right _ (List.mem_append_right _ (h)))))))
theorem tt14_all : ∀ w ∈ tt14, w ∈ lw_all := fun w h => List.mem_append_left _ (List.mem_append_left _ (List.mem_append_right _ (List.mem_append_right _ (List.mem_append_left _ (List.mem_append_left _ (h))))))
theorem tt15_all : ∀ w ∈ tt15, w ∈ lw_all := fun w h => List.mem_append_left _ (List.mem_append_left _ (List.mem_append_right _ (List.mem_append_right _ (List.mem_append_left _ (List.mem_append_right _ (h))))))
theorem tt16_all : ∀ w ∈ tt16, w ∈ lw_all := fun w h => List.mem_append_left _ (List.mem_append_left _ (List.mem_append_right _ (List.mem_append_right _ (List.mem_append_right _ (List.mem_append_left _ (h))))))
theorem tt17_all : ∀ w ∈ tt17, w ∈ lw_all := fun w h => List.mem_append_left _ (List.mem_append_left _ (List.mem_append_right _ (List.mem_append_right _ (List.mem_append_right _ (List.mem_append_right _ (List.mem_append_left _ (h)))))))
theorem tt18_all : ∀ w ∈ tt18, w ∈ lw_all := fun w h => List.mem_append_left _ (List.mem_append_left _ (List.mem_append_right _ (List.mem_append_right _ (List.mem_append_right _ (List.mem_append_right _ (List.mem_append_right _ (h)))))))
theorem tt19_all : ∀ w ∈ tt19, w ∈ lw_all := fun w h => List.mem_append_left _ (List.mem_append_right _ (List.mem_append_left _ (List.mem_append_left _ (List.mem_append_left _ (List.mem_append_left _ (h))))))
theorem tt20_all : ∀ w ∈ tt20, w ∈ lw_all := fun w h => List.mem_append_left _ (List.mem_append_right _ (List.mem_append_left _ (List.mem_append_left _ (List.mem_append_left _ (List.mem_append_right _ (h))))))
theorem tt21_all : ∀ w ∈ tt21, w ∈ lw_all := fun w h => List.mem_append_left _ (List.mem_append_right _ (List.mem_append_left _ (List.mem_append_left _ (List.mem_append_right _ (List.mem_append_left _ (h))))))
theorem tt22_all : ∀ w ∈ tt22, w ∈ lw_all := fun w h => List.mem_append_left _ (List.mem_append_right _ (List.mem_append_left _ (List.mem_append_left _ (List.mem_append_right _ (List.mem_append_right _ (h))))))
theorem tt23_all : ∀ w ∈ tt23, w ∈ lw_all := fun w h => List.mem_append_left _ (List.mem_append_right _ (List.mem_append_left _ (List.mem_append_right _ (List.mem_append_left _ (List.mem_append_left _ (h))))))
theorem tt24_all : ∀ w ∈ tt24, w ∈ lw_all := fun w h => List.mem_append_left _ (List.mem_append_right _ (List.mem_append_left _ (List.mem_append_right _ (List.mem_append_left _ (List.mem_append_right _ (h))))))
theorem tt25_all : ∀ w ∈ tt25, w ∈ lw_all := fun w h => List.mem_append_left _ (List.mem_append_right _ (List.mem_append_left _ (List.mem_append_right _ (List.mem_append_right _ (List.mem_append_left _ (h))))))
theorem tt26_all : ∀ w ∈ tt26, w ∈ lw_all := fun w h => List.mem_append_left _ (List.mem_append_right _ (List.mem_append_left _ (List.mem_append_right _ (List.mem_append_right _ (List.mem_append_right _ (List.mem_append_left _ (h)))))))
theorem tt27_all : ∀ w ∈ tt27, w ∈ lw_all := fun w h => List.mem_append_left _ (List.mem_append_right _ (List.mem_append_left _ (List.mem_append_right _ (List.mem_append_right _ (List.mem_append_right _ (List.mem_append_right _ (h)))))))
theorem tt28_all : ∀ w ∈ tt28, w ∈ lw_all := fun w h => List.mem_append_left _ (List.mem_append_right _ (List.mem_append_right _ (List.mem_append_left _ (List.mem_append_left _ (List.mem_append_left _ (h))))))
theorem tt29_all : ∀ w ∈ tt29, w ∈ lw_all := fun w h => List.mem_append_left _ (List.mem_append_right _ (List.mem_append_right _ (List.mem_append_left _ (List.mem_append_left _ (List.mem_append_right _ (h))))))
theorem tt30_all : ∀ w ∈ tt30, w ∈ lw_all := fun w h => List.mem_append_left _ (List.mem_append_right _ (List.mem_append_right _ (List.mem_append_left _ (List.mem_append_right _ (List.mem_append_left _ (h))))))
theorem tt31_all : ∀ w ∈ tt31, w ∈ lw_all := fun w h => List.mem_append_left _ (List.mem_append_right _ (List.mem_append_right _ (List.mem_append_left _ (List.mem_append_right _ (List.mem_append_right _ (List.mem_append_left _ (h)))))))
theorem tt32_all : ∀ w ∈ tt32, w ∈ lw_all := fun w h => List.mem_append_left _ (List.mem_append_right _ (List.mem_append_right _ (List.mem_append_left _ (List.mem_append_right _ (List.mem_append_right _ (List.mem_append_right _ (h)))))))
theorem tt33_all : ∀ w ∈ tt33, w ∈ lw_all := fun w h => List.mem_append_left _ (List.mem_append_right _ (List.mem_append_right _ (List.mem_append_right _ (List.mem_append_left _ (List.mem_append_left _ (h))))))
theorem tt34_all : ∀ w ∈ tt34, w ∈ lw_all := fun w h => List.mem_append_left _ (List.mem_append_right _ (List.mem_append_right _ (List.mem_append_right _ (List.mem_append_left _ (List.mem_append_right _ (h))))))
theorem tt35_all : ∀ w ∈ tt35, w ∈ lw_all := fun w h => List.mem_append_left _ (List.mem_append_right _ (List.mem_append_right _ (List.mem_append_right _ (List.mem_append_right _ (List.mem_append_left _ (h))))))
theorem tt36_all : ∀ w ∈ tt36, w ∈ lw_all := fun w h => List.mem_append_left _ (List.mem_append_right _ (List.mem_append_right _ (List.mem_append_right _ (List.mem_append_right _ (List.mem_append_right _ (List.mem_append_left _ (h)))))))
theorem tt37_all : ∀ w ∈ tt37, w ∈ lw_all := fun w h => List.mem_append_left _ (List.mem_append_right _ (List.mem_append_right _ (List.mem_append_right _ (List.mem_append_right _ (List.mem_append_right _ (List.mem_append_right _ (h)))))))
theorem tt38_all : ∀ w ∈ tt38, w ∈ lw_all := fun w h => List.mem_append_right _ (List.mem_append_left _ (List.mem_append_left _ (List.mem_append_left _ (List.mem_append_left _ (List.mem_append_left _ (h))))))
theorem tt39_all : ∀ w ∈ tt39, w ∈ lw_all := fun w h => List.mem_append_right _ (List.mem_append_left _ (List.mem_append_left _ (List.mem_append_left _ (List.mem_append_left _ (List.mem_append_right _ (h))))))
theorem tt40_all : ∀ w ∈ tt40, w ∈ lw_all := fun w h => List.mem_append_right _ (List.mem_append_left _ (List.mem_append_left _ (List.mem_append_left _ (List.mem_append_right _ (List.mem_append_left _ (h))))))
theorem tt41_all : ∀ w ∈ tt41, w ∈ lw_all := fun w h => List.mem_append_right _ (List.mem_append_left _ (List.mem_append_left _ (List.mem_append_left _ (List.mem_append_right _ (List.mem_append_right _ (h))))))
theorem tt42_all : ∀ w ∈ tt42, w ∈ lw_all := fun w h => List.mem_append_right _ (List.mem_append_left _ (List.mem_append_left _ (List.mem_append_right _ (List.mem_append_left _ (List.mem_append_left _ (h))))))
theorem tt43_all : ∀ w ∈ tt43, w ∈ lw_all := fun w h => List.mem_append_right _ (List.mem_append_left _ (List.mem_append_left _ (List.mem_append_right _ (List.mem_append_left _ (List.mem_append_right _ (h))))))
theorem tt44_all : ∀ w ∈ tt44, w ∈ lw_all := fun w h => List.mem_append_right _ (List.mem_append_left _ (List.mem_append_left _ (List.mem_append_right _ (List.mem_append_right _ (List.mem_append_left _ (h))))))
theorem tt45_all : ∀ w ∈ tt45, w ∈ lw_all := fun w h => List.mem_append_right _ (List.mem_append_left _ (List.mem_append_left _ (List.mem_append_right _ (List.mem_append_right _ (List.mem_append_right _ (List.mem_append_left _ (h)))))))
theorem tt46_all : ∀ w ∈ tt46, w ∈ lw_all := fun w h => List.mem_append_right _ (List.mem_append_left _ (List.mem_append_left _ (List.mem_append_right _ (List.mem_append_right _ (List.mem_append_right _ (List.mem_append_right _ (h)))))))
theorem tt47_all : ∀ w ∈ tt47, w ∈ lw_all := fun w h => List.mem_append_right _ (List.mem_append_left _ (List.mem_append_right _ (List.mem_append_left _ (List.mem_append_left _ (List.mem_append_left _ (h))))))
theorem tt48_all : ∀ w ∈ tt48, w ∈ lw_all := fun w h => List.mem_append_right _ (List.mem_append_left _ (List.mem_append_right _ (List.mem_append_left _ (List.mem_append_left _ (List.mem_append_right _ (h))))))
theorem tt49_all : ∀ w ∈ tt49, w ∈ lw_all := fun w h => List.mem_append_right _ (List.mem_append_left _ (List.mem_append_right _ (List.mem_append_left _ (List.mem_append_right _ (List.mem_append_left _ (h))))))
theorem tt50_all : ∀ w ∈ tt50, w ∈ lw_all := fun w h => List.mem_append_right _ (List.mem_append_left _ (List.mem_append_right _ (List.mem_append_left _ (List.mem_append_right _ (List.mem_append_right _ (List.mem_append_left _ (h)))))))
theorem tt51_all : ∀ w ∈ tt51, w ∈ lw_all := fun w h => List.mem_append_right _ (List.mem_append_left _ (List.mem_append_right _ (List.mem_append_left _ (List.mem_append_right _ (List.mem_append_right _ (List.mem_append_right _ (h)))))))
theorem tt52_all : ∀ w ∈ tt52, w ∈ lw_all := fun w h => List.mem_append_right _ (List.mem_append_left _ (List.mem_append_right _ (List.mem_append_right _ (List.mem_append_left _ (List.mem_append_left _ (h))))))
theorem tt53_all : ∀ w ∈ tt53, w ∈ lw_all := fun w h => List.mem_append_right _ (List.mem_append_left _ (List.mem_append_right _ (List.mem_append_right _ (List.mem_append_left _ (List.mem_append_right _ (h))))))
theorem tt54_all : ∀ w ∈ tt54, w ∈ lw_all := fun w h => List.mem_append_right _ (List.mem_append_left _ (List.mem_append_right _ (List.mem_append_right _ (List.mem_append_right _ (List.mem_append_left _ (h))))))
theorem tt55_all : ∀ w ∈ tt55, w ∈ lw_all := fun w h => List.mem_append_right _ (List.mem_append_left _ (List.mem_append_right _ (List.mem_append_right _ (List.mem_append_right _ (List.mem_append_right _ (List.mem_append_left _ (h)))))))
theorem tt56_all : ∀ w ∈ tt56, w ∈ lw_all := fun w h => List.mem_append_right _ (List.mem_append_left _ (List.mem_append_right _ (List.mem_append_right _ (List.mem_append_right _ (List.mem_append_right _ (List.mem_append_right _ (h)))))))
theorem tt57_all : ∀ w ∈ tt57, w ∈ lw_all := fun w h => List.mem_append_right _ (List.mem_append_right _ (List.mem_append_left _ (List.mem_append_left _ (List.mem_append_left _ (List.mem_append_left _ (h))))))
theorem tt58_all : ∀ w ∈ tt58, w ∈ lw_all := fun w h => List.mem_append_right _ (List.mem_append_right _ (List.mem_append_left _ (List.mem_append_left _ (List.mem_append_left _ (List.mem_append_right _ (h))))))
theorem tt59_all : ∀ w ∈ tt59, w ∈ lw_all := fun w h => List.mem_append_right _ (List.mem_append_right _ (List.mem_append_left _ (List.mem_append_left _ (List.mem_append_right _ (List.mem_append_left _ (h))))))
theorem tt60_all : ∀ w ∈ tt60, w ∈ lw_all := fun w h => List.mem_append_right _ (List.mem_append_right _ (List.mem_append_left _ (List.mem_append_left _ (List.mem_append_right _ (List.mem_append_right _ (List.mem_append_left _ (h)))))))
theorem tt61_all : ∀ w ∈ tt61, w ∈ lw_all := fun w h => List.mem_append_right _ (List.mem_append_right _ (List.mem_append_left _ (List.mem_append_left _ (List.mem_append_right _ (List.mem_append_right _ (List.mem_append_right _ (h)))))))
theorem tt62_all : ∀ w ∈ tt62, w ∈ lw_all := fun w h => List.mem_append_right _ (List.mem_append_right _ (List.mem_append_left _ (List.mem_append_right _ (List.mem_append_left _ (List.mem_append_left _ (h))))))
theorem tt63_all : ∀ w ∈ tt63, w ∈ lw_all := fun w h => List.mem_append_right _ (List.mem_append_right _ (List.mem_append_left _ (List.mem_append_right _ (List.mem_append_left _ (List.mem_append_right _ (h))))))
theorem tt64_all : ∀ w ∈ tt64, w ∈ lw_all := fun w h => List.mem_append_right _ (List.mem_append_right _ (List.mem_append_left _ (List.mem_append_right _ (List.mem_append_right _ (List.mem_append_left _ (h))))))
theorem tt65_all : ∀ w ∈ tt65, w ∈ lw_all := fun w h => List.mem_append_right _ (List.mem_append_right _ (List.mem_append_left _ (List.mem_append_right _ (List.mem_append_right _ (List.mem_append_right _ (List.mem_append_left _ (h)))))))
theorem tt66_all : ∀ w ∈ tt66, w ∈ lw_all := fun w h => List.mem_append_right _ (List.mem_append_right _ (List.mem_append_left _ (List.mem_append_right _ (List.mem_append_right _ (List.mem_append_right _ (List.mem_append_right _ (h)))))))
theorem tt67_all : ∀ w ∈ tt67, w ∈ lw_all := fun w h => List.mem_append_right _ (List.mem_append_right _ (List.mem_append_right _ (List.mem_append_left _ (List.mem_append_left _ (List.mem_append_left _ (h))))))
theorem tt68_all : ∀ w ∈ tt68, w ∈ lw_all := fun w h => List.mem_append_right _ (List.mem_append_right _ (List.mem_append_right _ (List.mem_append_left _ (List.mem_append_left _ (List.mem_append_right _ (h))))))
theorem tt69_all : ∀ w ∈ tt69, w ∈ lw_all := fun w h => List.mem_append_right _ (List.mem_append_right _ (List.mem_append_right _ (List.mem_append_left _ (List.mem_append_right _ (List.mem_append_left _ (h))))))
theorem tt70_all : ∀ w ∈ tt70, w ∈ lw_all := fun w h => List.mem_append_right _ (List.mem_append_right _ (List.mem_append_right _ (List.mem_append_left _ (List.mem_append_right _ (List.mem_append_right _ (List.mem_append_left _ (h)))))))
theorem tt71_all : ∀ w ∈ tt71, w ∈ lw_all := fun w h => List.mem_append_right _ (List.mem_append_right _ (List.mem_append_right _ (List.mem_append_left _ (List.mem_append_right _ (List.mem_append_right _ (List.mem_append_right _ (h)))))))
theorem ts0_all : ∀ w ∈ ts0, w ∈ lw_all := fun w h => List.mem_append_right _ (List.mem_append_right _ (List.mem_append_right _ (List.mem_append_right _ (List.mem_append_left _ (List.mem_append_left _ (h))))))
theorem ts1_all : ∀ w ∈ ts1, w ∈ lw_all := fun w h => List.mem_append_right _ (List.mem_append_right _ (List.mem_append_right _ (List.mem_append_right _ (List.mem_append_left _ (List.mem_append_right _ (h))))))
theorem ts2_all : ∀ w ∈ ts2, w ∈ lw_all := fun w h => List.mem_append_right _ (List.mem_append_right _ (List.mem_append_right _ (List.mem_append_right _ (List.mem_append_right _ (List.mem_append_left _ (h))))))
theorem ts3_all : ∀ w ∈ ts3, w ∈ lw_all := fun w h => List.mem_append_right _ (List.mem_append_right _ (List.mem_append_right _ (List.mem_append_right _ (List.mem_append_right _ (List.mem_append_right _ (List.mem_append_left _ (h)))))))
theorem ts4_all : ∀ w ∈ ts4, w ∈ lw_all := fun w h => List.mem_append_right _ (List.mem_append_right _ (List.mem_append_right _ (List.mem_append_right _ (List.mem_append_right _ (List.mem_append_right _ (List.mem_append_right _ (h)))))))
theorem qw0 : Cond.initialized RL ∈ lw_all := tt0_all _ (List.mem_of_getElem? (i := 0) rfl)
theorem qw1 : Cond.initialized RX11 ∈ lw_all := tt0_all _ (List.mem_of_getElem? (i := 1) rfl)
theorem qw2 : Cond.initialized RX4 ∈ lw_all := tt0_all _ (List.mem_of_getElem? (i := 2) rfl)
theorem qw3 : Cond.initialized RX1 ∈ lw_all := tt0_all _ (List.mem_of_getElem? (i := 3) rfl)
theorem qw4 : Cond.initialized RJ9 ∈ lw_all := tt0_all _ (List.mem_of_getElem? (i := 4) rfl)
theorem qw5 : Cond.initialized RX7 ∈ lw_all := tt0_all _ (List.mem_of_getElem? (i := 5) rfl)
theorem qw6 : Cond.initialized RX10 ∈ lw_all := tt0_all _ (List.mem_of_getElem? (i := 6) rfl)
theorem qw7 : Cond.initialized RX8 ∈ lw_all := tt0_all _ (List.mem_of_getElem? (i := 7) rfl)
theorem qw8 : Cond.initialized RX2 ∈ lw_all := tt0_all _ (List.mem_of_getElem? (i := 8) rfl)
theorem qw9 : Cond.initialized RX9 ∈ lw_all := tt0_all _ (List.mem_of_getElem? (i := 9) rfl)
theorem qw10 : Cond.initialized RX5 ∈ lw_all := tt0_all _ (List.mem_of_getElem? (i := 10) rfl)
theorem qw11 : Cond.initialized RX0 ∈ lw_all := tt0_all _ (List.mem_of_getElem? (i := 11) rfl)
theorem qw12 : Cond.initialized RX3 ∈ lw_all := tt0_all _ (List.mem_of_getElem? (i := 12) rfl)
theorem qw13 : Cond.initialized RX6 ∈ lw_all := tt0_all _ (List.mem_of_getElem? (i := 13) rfl)
theorem qw14 : Cond.initialized RX12 ∈ lw_all := tt0_all _ (List.mem_of_getElem? (i := 14) rfl)
theorem qw15 : Cond.initialized RJ0 ∈ lw_all := tt0_all _ (List.mem_of_getElem? (i := 15) rfl)
theorem qw16 : Cond.initialized RJ1 ∈ lw_all := tt0_all _ (List.mem_of_getElem? (i := 16) rfl)
theorem qw17 : Cond.initialized RJ3 ∈ lw_all := tt0_all _ (List.mem_of_getElem? (i := 17) rfl)
theorem qw18 : Cond.initialized RJ2 ∈ lw_all := tt0_all _ (List.mem_of_getElem? (i := 18) rfl)
theorem qw19 : Cond.initialized RJ10 ∈ lw_all := tt0_all _ (List.mem_of_getElem? (i := 19) rfl)
theorem qw20 : Cond.initialized RJ6 ∈ lw_all := tt0_all _ (List.mem_of_getElem? (i := 20) rfl)
theorem qw21 : Cond.classLink RL 7 RX11 ∈ lw_all := tt0_all _ (List.mem_of_getElem? (i := 21) rfl)
theorem qw22 : Cond.instantiable RX11 10 ∈ lw_all := tt0_all _ (List.mem_of_getElem? (i := 22) rfl)
theorem qw23 : Cond.methodLink RL 9 yX11_init ∈ lw_all := tt0_all _ (List.mem_of_getElem? (i := 23) rfl)
theorem qw24 : Cond.instanceMethod yX11_init ∈ lw_all := tt0_all _ (List.mem_of_getElem? (i := 24) rfl)
theorem qw25 : Cond.code yX11_init cX11_init 1 (Option.none : Option Jvm.ClassFile.FieldType) ∈ lw_all := tt1_all _ (List.mem_of_getElem? (i := 0) rfl)
theorem qw26 : Cond.methodLink RX11 1 objectInit ∈ lw_all := tt1_all _ (List.mem_of_getElem? (i := 1) rfl)
theorem qw27 : Cond.instanceMethod objectInit ∈ lw_all := tt1_all _ (List.mem_of_getElem? (i := 2) rfl)
theorem qw28 : Cond.code objectInit ⟨#[0xb1]⟩ 1 (Option.none : Option Jvm.ClassFile.FieldType) ∈ lw_all := tt1_all _ (List.mem_of_getElem? (i := 3) rfl)
theorem qw29 : Cond.classLink RX11 7 RX4 ∈ lw_all := tt1_all _ (List.mem_of_getElem? (i := 4) rfl)
theorem qw30 : Cond.instantiable RX4 5 ∈ lw_all := tt1_all _ (List.mem_of_getElem? (i := 5) rfl)
theorem qw32 : Cond.instanceMethod yX4_init ∈ lw_all := tt1_all _ (List.mem_of_getElem? (i := 6) rfl)
theorem qw33 : Cond.code yX4_init cX4_init 1 (Option.none : Option Jvm.ClassFile.FieldType) ∈ lw_all := tt1_all _ (List.mem_of_getElem? (i := 7) rfl)
theorem qw34 : Cond.methodLink RX4 3 objectInit ∈ lw_all := tt1_all _ (List.mem_of_getElem? (i := 8) rfl)
theorem qw35 : Cond.classLink RX4 9 RX1 ∈ lw_all := tt1_all _ (List.mem_of_getElem? (i := 9) rfl)
theorem qw36 : Cond.instantiable RX1 2 ∈ lw_all := tt1_all _ (List.mem_of_getElem? (i := 10) rfl)
theorem qw37 : Cond.methodLink RX4 11 yX1_init ∈ lw_all := tt1_all _ (List.mem_of_getElem? (i := 11) rfl)
theorem qw38 : Cond.instanceMethod yX1_init ∈ lw_all := tt1_all _ (List.mem_of_getElem? (i := 12) rfl)
theorem qw39 : Cond.code yX1_init cX1_init 2 (Option.none : Option Jvm.ClassFile.FieldType) ∈ lw_all := tt1_all _ (List.mem_of_getElem? (i := 13) rfl)
theorem qw40 : Cond.methodLink RX1 3 objectInit ∈ lw_all := tt1_all _ (List.mem_of_getElem? (i := 14) rfl)
theorem qw41 : Cond.methodLink RX1 9 yJ9_max_7cf53 ∈ lw_all := tt1_all _ (List.mem_of_getElem? (i := 15) rfl)
theorem qw42 : Cond.static yJ9_max_7cf53 ∈ lw_all := tt1_all _ (List.mem_of_getElem? (i := 16) rfl)
theorem qw43 : Cond.code yJ9_max_7cf53 cJ9_max_7cf53 2 (Option.some Jvm.ClassFile.FieldType.int) ∈ lw_all := tt1_all _ (List.mem_of_getElem? (i := 17) rfl)
theorem qw44 : Cond.fieldLink RX1 15 "StickVotes$Bytes" "cells" "[B" ∈ lw_all := tt1_all _ (List.mem_of_getElem? (i := 18) rfl)
theorem qw45 : Cond.fieldLink RX1 21 "StickVotes$Bytes" "length" "I" ∈ lw_all := tt1_all _ (List.mem_of_getElem? (i := 19) rfl)
theorem qw46 : Cond.laysFinal RX1 "StickVotes$Bytes" "cells" "[B" ∈ lw_all := tt1_all _ (List.mem_of_getElem? (i := 20) rfl)
theorem qw48 : Cond.lays RX1 "StickVotes$Bytes" "length" "I" ∈ lw_all := tt1_all _ (List.mem_of_getElem? (i := 21) rfl)
theorem qw51 : Cond.arrayClass Jvm.ClassFile.FieldType.byte ∈ lw_all := tt1_all _ (List.mem_of_getElem? (i := 22) rfl)
theorem qw52 : Cond.classLink RX4 20 RX7 ∈ lw_all := tt1_all _ (List.mem_of_getElem? (i := 23) rfl)
theorem qw53 : Cond.instantiable RX7 6 ∈ lw_all := tt1_all _ (List.mem_of_getElem? (i := 24) rfl)
theorem qw55 : Cond.instanceMethod yX7_init ∈ lw_all := tt2_all _ (List.mem_of_getElem? (i := 0) rfl)
theorem qw56 : Cond.code yX7_init cX7_init 1 (Option.none : Option Jvm.ClassFile.FieldType) ∈ lw_all := tt2_all _ (List.mem_of_getElem? (i := 1) rfl)
theorem qw57 : Cond.methodLink RX7 3 objectInit ∈ lw_all := tt2_all _ (List.mem_of_getElem? (i := 2) rfl)
theorem qw58 : Cond.fieldLink RX7 9 "StickVotes$Setup" "numbers" "[I" ∈ lw_all := tt2_all _ (List.mem_of_getElem? (i := 3) rfl)
theorem qw59 : Cond.fieldLink RX7 15 "StickVotes$Setup" "boatNames" "[I" ∈ lw_all := tt2_all _ (List.mem_of_getElem? (i := 4) rfl)
theorem qw60 : Cond.fieldLink RX7 18 "StickVotes$Setup" "personNames" "[I" ∈ lw_all := tt2_all _ (List.mem_of_getElem? (i := 5) rfl)
theorem qw61 : Cond.fieldLink RX7 21 "StickVotes$Setup" "firstBoats" "[I" ∈ lw_all := tt2_all _ (List.mem_of_getElem? (i := 6) rfl)
theorem qw62 : Cond.fieldLink RX7 36 "StickVotes$Setup" "boats" "I" ∈ lw_all := tt2_all _ (List.mem_of_getElem? (i := 7) rfl)
theorem qw63 : Cond.fieldLink RX7 40 "StickVotes$Setup" "people" "I" ∈ lw_all := tt2_all _ (List.mem_of_getElem? (i := 8) rfl)
theorem qw64 : Cond.laysFinal RX7 "StickVotes$Setup" "numbers" "[I" ∈ lw_all := tt2_all _ (List.mem_of_getElem? (i := 9) rfl)
theorem qw66 : Cond.laysFinal RX7 "StickVotes$Setup" "boatNames" "[I" ∈ lw_all := tt2_all _ (List.mem_of_getElem? (i := 10) rfl)
theorem qw68 : Cond.laysFinal RX7 "StickVotes$Setup" "personNames" "[I" ∈ lw_all := tt2_all _ (List.mem_of_getElem? (i := 11) rfl)
theorem qw70 : Cond.laysFinal RX7 "StickVotes$Setup" "firstBoats" "[I" ∈ lw_all := tt2_all _ (List.mem_of_getElem? (i := 12) rfl)
theorem qw72 : Cond.lays RX7 "StickVotes$Setup" "boats" "I" ∈ lw_all := tt2_all _ (List.mem_of_getElem? (i := 13) rfl)
theorem qw74 : Cond.lays RX7 "StickVotes$Setup" "people" "I" ∈ lw_all := tt2_all _ (List.mem_of_getElem? (i := 14) rfl)
theorem qw77 : Cond.arrayClass Jvm.ClassFile.FieldType.int ∈ lw_all := tt2_all _ (List.mem_of_getElem? (i := 15) rfl)
theorem qw78 : Cond.fieldLink RX4 14 "StickVotes$Parser" "tape" "LStickVotes$Bytes;" ∈ lw_all := tt2_all _ (List.mem_of_getElem? (i := 16) rfl)
theorem qw79 : Cond.fieldLink RX11 16 "StickVotes$Parser" "tape" "LStickVotes$Bytes;" ∈ lw_all := tt2_all _ (List.mem_of_getElem? (i := 17) rfl)
theorem qw80 : Cond.fieldLink RX4 23 "StickVotes$Parser" "draft" "LStickVotes$Setup;" ∈ lw_all := tt2_all _ (List.mem_of_getElem? (i := 18) rfl)
theorem qw81 : Cond.fieldLink RX11 86 "StickVotes$Parser" "draft" "LStickVotes$Setup;" ∈ lw_all := tt2_all _ (List.mem_of_getElem? (i := 19) rfl)
theorem qw82 : Cond.fieldLink RX4 97 "StickVotes$Parser" "kind" "I" ∈ lw_all := tt2_all _ (List.mem_of_getElem? (i := 20) rfl)
theorem qw83 : Cond.fieldLink RX4 47 "StickVotes$Parser" "start" "I" ∈ lw_all := tt2_all _ (List.mem_of_getElem? (i := 21) rfl)
theorem qw84 : Cond.fieldLink RX4 30 "StickVotes$Parser" "end" "I" ∈ lw_all := tt2_all _ (List.mem_of_getElem? (i := 22) rfl)
theorem qw85 : Cond.laysFinal RX4 "StickVotes$Parser" "tape" "LStickVotes$Bytes;" ∈ lw_all := tt2_all _ (List.mem_of_getElem? (i := 23) rfl)
theorem qw87 : Cond.laysFinal RX4 "StickVotes$Parser" "draft" "LStickVotes$Setup;" ∈ lw_all := tt2_all _ (List.mem_of_getElem? (i := 24) rfl)
theorem qw89 : Cond.lays RX4 "StickVotes$Parser" "kind" "I" ∈ lw_all := tt3_all _ (List.mem_of_getElem? (i := 0) rfl)
theorem qw91 : Cond.lays RX4 "StickVotes$Parser" "start" "I" ∈ lw_all := tt3_all _ (List.mem_of_getElem? (i := 1) rfl)
theorem qw93 : Cond.lays RX4 "StickVotes$Parser" "end" "I" ∈ lw_all := tt3_all _ (List.mem_of_getElem? (i := 2) rfl)
theorem qw96 : Cond.classLink RX11 21 RX10 ∈ lw_all := tt3_all _ (List.mem_of_getElem? (i := 3) rfl)
theorem qw97 : Cond.instantiable RX10 3 ∈ lw_all := tt3_all _ (List.mem_of_getElem? (i := 4) rfl)
theorem qw99 : Cond.instanceMethod yX10_init ∈ lw_all := tt3_all _ (List.mem_of_getElem? (i := 5) rfl)
theorem qw100 : Cond.code yX10_init cX10_init 1 (Option.none : Option Jvm.ClassFile.FieldType) ∈ lw_all := tt3_all _ (List.mem_of_getElem? (i := 6) rfl)
theorem qw101 : Cond.methodLink RX10 3 objectInit ∈ lw_all := tt3_all _ (List.mem_of_getElem? (i := 7) rfl)
theorem qw102 : Cond.classLink RX10 9 RX7 ∈ lw_all := tt3_all _ (List.mem_of_getElem? (i := 8) rfl)
theorem qw104 : Cond.classLink RX10 18 RX8 ∈ lw_all := tt3_all _ (List.mem_of_getElem? (i := 9) rfl)
theorem qw105 : Cond.instantiable RX8 12 ∈ lw_all := tt3_all _ (List.mem_of_getElem? (i := 10) rfl)
theorem qw107 : Cond.instanceMethod yX8_init ∈ lw_all := tt3_all _ (List.mem_of_getElem? (i := 11) rfl)
theorem qw108 : Cond.code yX8_init cX8_init 1 (Option.none : Option Jvm.ClassFile.FieldType) ∈ lw_all := tt3_all _ (List.mem_of_getElem? (i := 12) rfl)
theorem qw109 : Cond.methodLink RX8 3 objectInit ∈ lw_all := tt3_all _ (List.mem_of_getElem? (i := 13) rfl)
theorem qw110 : Cond.classLink RX8 9 RX2 ∈ lw_all := tt3_all _ (List.mem_of_getElem? (i := 14) rfl)
theorem qw111 : Cond.instantiable RX2 6 ∈ lw_all := tt3_all _ (List.mem_of_getElem? (i := 15) rfl)
theorem qw113 : Cond.instanceMethod yX2_init ∈ lw_all := tt3_all _ (List.mem_of_getElem? (i := 16) rfl)
theorem qw114 : Cond.code yX2_init cX2_init 1 (Option.none : Option Jvm.ClassFile.FieldType) ∈ lw_all := tt3_all _ (List.mem_of_getElem? (i := 17) rfl)
theorem qw115 : Cond.methodLink RX2 3 objectInit ∈ lw_all := tt3_all _ (List.mem_of_getElem? (i := 18) rfl)
theorem qw116 : Cond.fieldLink RX2 9 "StickVotes$Fleet" "boatOf" "[I" ∈ lw_all := tt3_all _ (List.mem_of_getElem? (i := 19) rfl)
theorem qw117 : Cond.fieldLink RX2 15 "StickVotes$Fleet" "atSea" "[I" ∈ lw_all := tt3_all _ (List.mem_of_getElem? (i := 20) rfl)
theorem qw118 : Cond.fieldLink RX2 18 "StickVotes$Fleet" "faults" "[I" ∈ lw_all := tt3_all _ (List.mem_of_getElem? (i := 21) rfl)
theorem qw119 : Cond.fieldLink RX2 21 "StickVotes$Fleet" "daysAtSea" "[I" ∈ lw_all := tt3_all _ (List.mem_of_getElem? (i := 22) rfl)
theorem qw120 : Cond.fieldLink RX2 24 "StickVotes$Fleet" "back" "[I" ∈ lw_all := tt3_all _ (List.mem_of_getElem? (i := 23) rfl)
theorem qw121 : Cond.fieldLink RX2 27 "StickVotes$Fleet" "sailed" "[I" ∈ lw_all := tt3_all _ (List.mem_of_getElem? (i := 24) rfl)
theorem qw122 : Cond.laysFinal RX2 "StickVotes$Fleet" "boatOf" "[I" ∈ lw_all := tt4_all _ (List.mem_of_getElem? (i := 0) rfl)
theorem qw124 : Cond.laysFinal RX2 "StickVotes$Fleet" "atSea" "[I" ∈ lw_all := tt4_all _ (List.mem_of_getElem? (i := 1) rfl)
theorem qw126 : Cond.laysFinal RX2 "StickVotes$Fleet" "faults" "[I" ∈ lw_all := tt4_all _ (List.mem_of_getElem? (i := 2) rfl)
theorem qw128 : Cond.laysFinal RX2 "StickVotes$Fleet" "daysAtSea" "[I" ∈ lw_all := tt4_all _ (List.mem_of_getElem? (i := 3) rfl)
theorem qw130 : Cond.laysFinal RX2 "StickVotes$Fleet" "back" "[I" ∈ lw_all := tt4_all _ (List.mem_of_getElem? (i := 4) rfl)
theorem qw132 : Cond.laysFinal RX2 "StickVotes$Fleet" "sailed" "[I" ∈ lw_all := tt4_all _ (List.mem_of_getElem? (i := 5) rfl)
theorem qw135 : Cond.classLink RX8 18 RX9 ∈ lw_all := tt4_all _ (List.mem_of_getElem? (i := 6) rfl)
theorem qw136 : Cond.instantiable RX9 6 ∈ lw_all := tt4_all _ (List.mem_of_getElem? (i := 7) rfl)
theorem qw138 : Cond.instanceMethod yX9_init ∈ lw_all := tt4_all _ (List.mem_of_getElem? (i := 8) rfl)
theorem qw139 : Cond.code yX9_init cX9_init 1 (Option.none : Option Jvm.ClassFile.FieldType) ∈ lw_all := tt4_all _ (List.mem_of_getElem? (i := 9) rfl)
theorem qw140 : Cond.methodLink RX9 3 objectInit ∈ lw_all := tt4_all _ (List.mem_of_getElem? (i := 10) rfl)
theorem qw141 : Cond.fieldLink RX9 9 "StickVotes$Sticks" "place" "[I" ∈ lw_all := tt4_all _ (List.mem_of_getElem? (i := 11) rfl)
theorem qw142 : Cond.fieldLink RX9 15 "StickVotes$Sticks" "carrier" "[I" ∈ lw_all := tt4_all _ (List.mem_of_getElem? (i := 12) rfl)
theorem qw143 : Cond.fieldLink RX9 18 "StickVotes$Sticks" "bound" "[I" ∈ lw_all := tt4_all _ (List.mem_of_getElem? (i := 13) rfl)
theorem qw144 : Cond.fieldLink RX9 21 "StickVotes$Sticks" "basket" "[I" ∈ lw_all := tt4_all _ (List.mem_of_getElem? (i := 14) rfl)
theorem qw145 : Cond.fieldLink RX9 24 "StickVotes$Sticks" "day" "[I" ∈ lw_all := tt4_all _ (List.mem_of_getElem? (i := 15) rfl)
theorem qw146 : Cond.fieldLink RX9 27 "StickVotes$Sticks" "reason" "[I" ∈ lw_all := tt4_all _ (List.mem_of_getElem? (i := 16) rfl)
theorem qw147 : Cond.laysFinal RX9 "StickVotes$Sticks" "place" "[I" ∈ lw_all := tt4_all _ (List.mem_of_getElem? (i := 17) rfl)
theorem qw149 : Cond.laysFinal RX9 "StickVotes$Sticks" "carrier" "[I" ∈ lw_all := tt4_all _ (List.mem_of_getElem? (i := 18) rfl)
theorem qw151 : Cond.laysFinal RX9 "StickVotes$Sticks" "bound" "[I" ∈ lw_all := tt4_all _ (List.mem_of_getElem? (i := 19) rfl)
theorem qw153 : Cond.laysFinal RX9 "StickVotes$Sticks" "basket" "[I" ∈ lw_all := tt4_all _ (List.mem_of_getElem? (i := 20) rfl)
theorem qw155 : Cond.laysFinal RX9 "StickVotes$Sticks" "day" "[I" ∈ lw_all := tt4_all _ (List.mem_of_getElem? (i := 21) rfl)
theorem qw157 : Cond.laysFinal RX9 "StickVotes$Sticks" "reason" "[I" ∈ lw_all := tt4_all _ (List.mem_of_getElem? (i := 22) rfl)
theorem qw160 : Cond.classLink RX8 25 RX5 ∈ lw_all := tt4_all _ (List.mem_of_getElem? (i := 23) rfl)
theorem qw161 : Cond.instantiable RX5 3 ∈ lw_all := tt4_all _ (List.mem_of_getElem? (i := 24) rfl)
theorem qw162 : Cond.methodLink RX8 27 yX5_init ∈ lw_all := tt5_all _ (List.mem_of_getElem? (i := 0) rfl)
theorem qw163 : Cond.instanceMethod yX5_init ∈ lw_all := tt5_all _ (List.mem_of_getElem? (i := 1) rfl)
theorem qw164 : Cond.code yX5_init cX5_init 2 (Option.none : Option Jvm.ClassFile.FieldType) ∈ lw_all := tt5_all _ (List.mem_of_getElem? (i := 2) rfl)
theorem qw165 : Cond.methodLink RX5 3 objectInit ∈ lw_all := tt5_all _ (List.mem_of_getElem? (i := 3) rfl)
theorem qw166 : Cond.methodLink RX5 9 yJ9_max_7cf53 ∈ lw_all := tt5_all _ (List.mem_of_getElem? (i := 4) rfl)
theorem qw167 : Cond.fieldLink RX5 15 "StickVotes$Ring" "rows" "I" ∈ lw_all := tt5_all _ (List.mem_of_getElem? (i := 5) rfl)
theorem qw168 : Cond.fieldLink RX5 21 "StickVotes$Ring" "cells" "[I" ∈ lw_all := tt5_all _ (List.mem_of_getElem? (i := 6) rfl)
theorem qw169 : Cond.fieldLink RX5 25 "StickVotes$Ring" "added" "I" ∈ lw_all := tt5_all _ (List.mem_of_getElem? (i := 7) rfl)
theorem qw170 : Cond.laysFinal RX5 "StickVotes$Ring" "rows" "I" ∈ lw_all := tt5_all _ (List.mem_of_getElem? (i := 8) rfl)
theorem qw172 : Cond.laysFinal RX5 "StickVotes$Ring" "cells" "[I" ∈ lw_all := tt5_all _ (List.mem_of_getElem? (i := 9) rfl)
theorem qw174 : Cond.lays RX5 "StickVotes$Ring" "added" "I" ∈ lw_all := tt5_all _ (List.mem_of_getElem? (i := 10) rfl)
theorem qw177 : Cond.fieldLink RX8 12 "StickVotes$State" "fleet" "LStickVotes$Fleet;" ∈ lw_all := tt5_all _ (List.mem_of_getElem? (i := 11) rfl)
theorem qw178 : Cond.fieldLink RX6 49 "StickVotes$State" "fleet" "LStickVotes$Fleet;" ∈ lw_all := tt5_all _ (List.mem_of_getElem? (i := 12) rfl)
theorem qw179 : Cond.fieldLink RX10 46 "StickVotes$State" "fleet" "LStickVotes$Fleet;" ∈ lw_all := tt5_all _ (List.mem_of_getElem? (i := 13) rfl)
theorem qw180 : Cond.fieldLink RX11 108 "StickVotes$State" "fleet" "LStickVotes$Fleet;" ∈ lw_all := tt5_all _ (List.mem_of_getElem? (i := 14) rfl)
theorem qw181 : Cond.fieldLink RX8 21 "StickVotes$State" "sticks" "LStickVotes$Sticks;" ∈ lw_all := tt5_all _ (List.mem_of_getElem? (i := 15) rfl)
theorem qw182 : Cond.fieldLink RX6 39 "StickVotes$State" "sticks" "LStickVotes$Sticks;" ∈ lw_all := tt5_all _ (List.mem_of_getElem? (i := 16) rfl)
theorem qw183 : Cond.fieldLink RX10 87 "StickVotes$State" "sticks" "LStickVotes$Sticks;" ∈ lw_all := tt5_all _ (List.mem_of_getElem? (i := 17) rfl)
theorem qw184 : Cond.fieldLink RX11 158 "StickVotes$State" "sticks" "LStickVotes$Sticks;" ∈ lw_all := tt5_all _ (List.mem_of_getElem? (i := 18) rfl)
theorem qw185 : Cond.fieldLink RX8 30 "StickVotes$State" "past" "LStickVotes$Ring;" ∈ lw_all := tt5_all _ (List.mem_of_getElem? (i := 19) rfl)
theorem qw186 : Cond.fieldLink RX10 154 "StickVotes$State" "past" "LStickVotes$Ring;" ∈ lw_all := tt5_all _ (List.mem_of_getElem? (i := 20) rfl)
theorem qw187 : Cond.fieldLink RX11 311 "StickVotes$State" "past" "LStickVotes$Ring;" ∈ lw_all := tt5_all _ (List.mem_of_getElem? (i := 21) rfl)
theorem qw188 : Cond.fieldLink RX8 34 "StickVotes$State" "log" "LStickVotes$Ring;" ∈ lw_all := tt5_all _ (List.mem_of_getElem? (i := 22) rfl)
theorem qw189 : Cond.fieldLink RX10 56 "StickVotes$State" "log" "LStickVotes$Ring;" ∈ lw_all := tt5_all _ (List.mem_of_getElem? (i := 23) rfl)
theorem qw190 : Cond.fieldLink RX11 262 "StickVotes$State" "log" "LStickVotes$Ring;" ∈ lw_all := tt5_all _ (List.mem_of_getElem? (i := 24) rfl)
theorem qw191 : Cond.fieldLink RX8 46 "StickVotes$State" "day" "I" ∈ lw_all := tt6_all _ (List.mem_of_getElem? (i := 0) rfl)
theorem qw192 : Cond.fieldLink RX10 42 "StickVotes$State" "day" "I" ∈ lw_all := tt6_all _ (List.mem_of_getElem? (i := 1) rfl)
theorem qw193 : Cond.fieldLink RX11 222 "StickVotes$State" "day" "I" ∈ lw_all := tt6_all _ (List.mem_of_getElem? (i := 2) rfl)
theorem qw194 : Cond.fieldLink RX8 50 "StickVotes$State" "votes" "I" ∈ lw_all := tt6_all _ (List.mem_of_getElem? (i := 3) rfl)
theorem qw195 : Cond.fieldLink RX10 100 "StickVotes$State" "votes" "I" ∈ lw_all := tt6_all _ (List.mem_of_getElem? (i := 4) rfl)
theorem qw196 : Cond.fieldLink RX11 259 "StickVotes$State" "votes" "I" ∈ lw_all := tt6_all _ (List.mem_of_getElem? (i := 5) rfl)
theorem qw197 : Cond.fieldLink RX8 56 "StickVotes$State" "isOpen" "Z" ∈ lw_all := tt6_all _ (List.mem_of_getElem? (i := 6) rfl)
theorem qw198 : Cond.fieldLink RX10 144 "StickVotes$State" "isOpen" "Z" ∈ lw_all := tt6_all _ (List.mem_of_getElem? (i := 7) rfl)
theorem qw199 : Cond.fieldLink RX8 60 "StickVotes$State" "baskets" "I" ∈ lw_all := tt6_all _ (List.mem_of_getElem? (i := 8) rfl)
theorem qw200 : Cond.fieldLink RX11 250 "StickVotes$State" "baskets" "I" ∈ lw_all := tt6_all _ (List.mem_of_getElem? (i := 9) rfl)
theorem qw201 : Cond.fieldLink RX8 63 "StickVotes$State" "lays" "I" ∈ lw_all := tt6_all _ (List.mem_of_getElem? (i := 10) rfl)
theorem qw202 : Cond.fieldLink RX10 113 "StickVotes$State" "lays" "I" ∈ lw_all := tt6_all _ (List.mem_of_getElem? (i := 11) rfl)
theorem qw203 : Cond.fieldLink RX11 361 "StickVotes$State" "lays" "I" ∈ lw_all := tt6_all _ (List.mem_of_getElem? (i := 12) rfl)
theorem qw204 : Cond.fieldLink RX8 66 "StickVotes$State" "recounts" "I" ∈ lw_all := tt6_all _ (List.mem_of_getElem? (i := 13) rfl)
theorem qw205 : Cond.fieldLink RX10 140 "StickVotes$State" "recounts" "I" ∈ lw_all := tt6_all _ (List.mem_of_getElem? (i := 14) rfl)
theorem qw206 : Cond.fieldLink RX11 204 "StickVotes$State" "recounts" "I" ∈ lw_all := tt6_all _ (List.mem_of_getElem? (i := 15) rfl)
theorem qw207 : Cond.fieldLink RX8 69 "StickVotes$State" "fixedNeed" "I" ∈ lw_all := tt6_all _ (List.mem_of_getElem? (i := 16) rfl)
theorem qw208 : Cond.fieldLink RX10 148 "StickVotes$State" "fixedNeed" "I" ∈ lw_all := tt6_all _ (List.mem_of_getElem? (i := 17) rfl)
theorem qw209 : Cond.fieldLink RX8 72 "StickVotes$State" "closedOn" "I" ∈ lw_all := tt6_all _ (List.mem_of_getElem? (i := 18) rfl)
theorem qw210 : Cond.fieldLink RX10 170 "StickVotes$State" "closedOn" "I" ∈ lw_all := tt6_all _ (List.mem_of_getElem? (i := 19) rfl)
theorem qw211 : Cond.laysFinal RX8 "StickVotes$State" "fleet" "LStickVotes$Fleet;" ∈ lw_all := tt6_all _ (List.mem_of_getElem? (i := 20) rfl)
theorem qw213 : Cond.laysFinal RX8 "StickVotes$State" "sticks" "LStickVotes$Sticks;" ∈ lw_all := tt6_all _ (List.mem_of_getElem? (i := 21) rfl)
theorem qw215 : Cond.laysFinal RX8 "StickVotes$State" "past" "LStickVotes$Ring;" ∈ lw_all := tt6_all _ (List.mem_of_getElem? (i := 22) rfl)
theorem qw217 : Cond.laysFinal RX8 "StickVotes$State" "log" "LStickVotes$Ring;" ∈ lw_all := tt6_all _ (List.mem_of_getElem? (i := 23) rfl)
theorem qw219 : Cond.lays RX8 "StickVotes$State" "day" "I" ∈ lw_all := tt6_all _ (List.mem_of_getElem? (i := 24) rfl)
theorem qw221 : Cond.lays RX8 "StickVotes$State" "votes" "I" ∈ lw_all := tt7_all _ (List.mem_of_getElem? (i := 0) rfl)
theorem qw223 : Cond.lays RX8 "StickVotes$State" "isOpen" "Z" ∈ lw_all := tt7_all _ (List.mem_of_getElem? (i := 1) rfl)
theorem qw225 : Cond.lays RX8 "StickVotes$State" "baskets" "I" ∈ lw_all := tt7_all _ (List.mem_of_getElem? (i := 2) rfl)
theorem qw227 : Cond.lays RX8 "StickVotes$State" "lays" "I" ∈ lw_all := tt7_all _ (List.mem_of_getElem? (i := 3) rfl)
theorem qw229 : Cond.lays RX8 "StickVotes$State" "recounts" "I" ∈ lw_all := tt7_all _ (List.mem_of_getElem? (i := 4) rfl)
theorem qw231 : Cond.lays RX8 "StickVotes$State" "fixedNeed" "I" ∈ lw_all := tt7_all _ (List.mem_of_getElem? (i := 5) rfl)
theorem qw233 : Cond.lays RX8 "StickVotes$State" "closedOn" "I" ∈ lw_all := tt7_all _ (List.mem_of_getElem? (i := 6) rfl)
theorem qw236 : Cond.classLink RX10 25 RX0 ∈ lw_all := tt7_all _ (List.mem_of_getElem? (i := 7) rfl)
theorem qw237 : Cond.instantiable RX0 2 ∈ lw_all := tt7_all _ (List.mem_of_getElem? (i := 8) rfl)
theorem qw239 : Cond.instanceMethod yX0_init ∈ lw_all := tt7_all _ (List.mem_of_getElem? (i := 9) rfl)
theorem qw240 : Cond.code yX0_init cX0_init 1 (Option.none : Option Jvm.ClassFile.FieldType) ∈ lw_all := tt8_all _ (List.mem_of_getElem? (i := 0) rfl)
theorem qw241 : Cond.methodLink RX0 3 objectInit ∈ lw_all := tt8_all _ (List.mem_of_getElem? (i := 1) rfl)
theorem qw242 : Cond.fieldLink RX0 9 "StickVotes$Ballot" "basketOf" "[I" ∈ lw_all := tt8_all _ (List.mem_of_getElem? (i := 2) rfl)
theorem qw243 : Cond.fieldLink RX0 15 "StickVotes$Ballot" "counts" "[I" ∈ lw_all := tt8_all _ (List.mem_of_getElem? (i := 3) rfl)
theorem qw244 : Cond.laysFinal RX0 "StickVotes$Ballot" "basketOf" "[I" ∈ lw_all := tt8_all _ (List.mem_of_getElem? (i := 4) rfl)
theorem qw246 : Cond.laysFinal RX0 "StickVotes$Ballot" "counts" "[I" ∈ lw_all := tt8_all _ (List.mem_of_getElem? (i := 5) rfl)
theorem qw249 : Cond.fieldLink RX10 12 "StickVotes$Village" "setup" "LStickVotes$Setup;" ∈ lw_all := tt8_all _ (List.mem_of_getElem? (i := 6) rfl)
theorem qw250 : Cond.fieldLink RX11 28 "StickVotes$Village" "setup" "LStickVotes$Setup;" ∈ lw_all := tt8_all _ (List.mem_of_getElem? (i := 7) rfl)
theorem qw251 : Cond.fieldLink RX10 21 "StickVotes$Village" "now" "LStickVotes$State;" ∈ lw_all := tt8_all _ (List.mem_of_getElem? (i := 8) rfl)
theorem qw252 : Cond.fieldLink RX11 33 "StickVotes$Village" "now" "LStickVotes$State;" ∈ lw_all := tt8_all _ (List.mem_of_getElem? (i := 9) rfl)
theorem qw253 : Cond.fieldLink RX10 28 "StickVotes$Village" "ballot" "LStickVotes$Ballot;" ∈ lw_all := tt8_all _ (List.mem_of_getElem? (i := 10) rfl)
theorem qw254 : Cond.laysFinal RX10 "StickVotes$Village" "setup" "LStickVotes$Setup;" ∈ lw_all := tt8_all _ (List.mem_of_getElem? (i := 11) rfl)
theorem qw256 : Cond.laysFinal RX10 "StickVotes$Village" "now" "LStickVotes$State;" ∈ lw_all := tt8_all _ (List.mem_of_getElem? (i := 12) rfl)
theorem qw258 : Cond.laysFinal RX10 "StickVotes$Village" "ballot" "LStickVotes$Ballot;" ∈ lw_all := tt8_all _ (List.mem_of_getElem? (i := 13) rfl)
theorem qw261 : Cond.classLink RX11 38 RX3 ∈ lw_all := tt8_all _ (List.mem_of_getElem? (i := 14) rfl)
theorem qw262 : Cond.instantiable RX3 3 ∈ lw_all := tt8_all _ (List.mem_of_getElem? (i := 15) rfl)
theorem qw263 : Cond.methodLink RX11 40 yX3_init ∈ lw_all := tt8_all _ (List.mem_of_getElem? (i := 16) rfl)
theorem qw264 : Cond.instanceMethod yX3_init ∈ lw_all := tt8_all _ (List.mem_of_getElem? (i := 17) rfl)
theorem qw265 : Cond.code yX3_init cX3_init 2 (Option.none : Option Jvm.ClassFile.FieldType) ∈ lw_all := tt8_all _ (List.mem_of_getElem? (i := 18) rfl)
theorem qw266 : Cond.methodLink RX3 3 objectInit ∈ lw_all := tt8_all _ (List.mem_of_getElem? (i := 19) rfl)
theorem qw267 : Cond.classLink RX3 9 RX8 ∈ lw_all := tt8_all _ (List.mem_of_getElem? (i := 20) rfl)
theorem qw270 : Cond.fieldLink RX3 11 "StickVotes$History" "states" "[LStickVotes$State;" ∈ lw_all := tt8_all _ (List.mem_of_getElem? (i := 21) rfl)
theorem qw271 : Cond.fieldLink RX3 18 "StickVotes$History" "steps" "I" ∈ lw_all := tt8_all _ (List.mem_of_getElem? (i := 22) rfl)
theorem qw272 : Cond.fieldLink RX3 22 "StickVotes$History" "next" "I" ∈ lw_all := tt8_all _ (List.mem_of_getElem? (i := 23) rfl)
theorem qw273 : Cond.laysFinal RX3 "StickVotes$History" "states" "[LStickVotes$State;" ∈ lw_all := tt8_all _ (List.mem_of_getElem? (i := 24) rfl)
theorem qw275 : Cond.lays RX3 "StickVotes$History" "steps" "I" ∈ lw_all := tt9_all _ (List.mem_of_getElem? (i := 0) rfl)
theorem qw277 : Cond.lays RX3 "StickVotes$History" "next" "I" ∈ lw_all := tt9_all _ (List.mem_of_getElem? (i := 1) rfl)
theorem qw280 : Cond.classLink RX11 45 RX8 ∈ lw_all := tt9_all _ (List.mem_of_getElem? (i := 2) rfl)
theorem qw282 : Cond.classLink RX11 56 RX6 ∈ lw_all := tt9_all _ (List.mem_of_getElem? (i := 3) rfl)
theorem qw283 : Cond.instantiable RX6 1 ∈ lw_all := tt9_all _ (List.mem_of_getElem? (i := 4) rfl)
theorem qw285 : Cond.instanceMethod yX6_init ∈ lw_all := tt9_all _ (List.mem_of_getElem? (i := 5) rfl)
theorem qw286 : Cond.code yX6_init cX6_init 1 (Option.none : Option Jvm.ClassFile.FieldType) ∈ lw_all := tt9_all _ (List.mem_of_getElem? (i := 6) rfl)
theorem qw287 : Cond.methodLink RX6 3 objectInit ∈ lw_all := tt9_all _ (List.mem_of_getElem? (i := 7) rfl)
theorem qw288 : Cond.classLink RX6 9 RX1 ∈ lw_all := tt9_all _ (List.mem_of_getElem? (i := 8) rfl)
theorem qw289 : Cond.methodLink RX6 11 yX1_init ∈ lw_all := tt9_all _ (List.mem_of_getElem? (i := 9) rfl)
theorem qw290 : Cond.fieldLink RX6 14 "StickVotes$Scribe" "text" "LStickVotes$Bytes;" ∈ lw_all := tt9_all _ (List.mem_of_getElem? (i := 10) rfl)
theorem qw291 : Cond.laysFinal RX6 "StickVotes$Scribe" "text" "LStickVotes$Bytes;" ∈ lw_all := tt9_all _ (List.mem_of_getElem? (i := 11) rfl)
theorem qw294 : Cond.arrayClass Jvm.ClassFile.FieldType.boolean ∈ lw_all := tt9_all _ (List.mem_of_getElem? (i := 12) rfl)
theorem qw295 : Cond.methodLink RX11 67 yX10_beginTheFirstOne ∈ lw_all := tt9_all _ (List.mem_of_getElem? (i := 13) rfl)
theorem qw296 : Cond.instanceMethod yX10_beginTheFirstOne ∈ lw_all := tt9_all _ (List.mem_of_getElem? (i := 14) rfl)
theorem qw297 : Cond.selects RX10 yX10_beginTheFirstOne yX10_beginTheFirstOne ∈ lw_all := tt9_all _ (List.mem_of_getElem? (i := 15) rfl)
theorem qw298 : Cond.code yX10_beginTheFirstOne cX10_beginTheFirstOne 1 (Option.none : Option Jvm.ClassFile.FieldType) ∈ lw_all := tt9_all _ (List.mem_of_getElem? (i := 16) rfl)
theorem qw299 : Cond.methodLink RX10 32 yX7_makeFirstVillage ∈ lw_all := tt9_all _ (List.mem_of_getElem? (i := 17) rfl)
theorem qw300 : Cond.instanceMethod yX7_makeFirstVillage ∈ lw_all := tt9_all _ (List.mem_of_getElem? (i := 18) rfl)
theorem qw301 : Cond.selects RX7 yX7_makeFirstVillage yX7_makeFirstVillage ∈ lw_all := tt9_all _ (List.mem_of_getElem? (i := 19) rfl)
theorem qw302 : Cond.code yX7_makeFirstVillage cX7_makeFirstVillage 2 (Option.none : Option Jvm.ClassFile.FieldType) ∈ lw_all := tt9_all _ (List.mem_of_getElem? (i := 20) rfl)
theorem qw303 : Cond.methodLink RX7 24 yX7_clear ∈ lw_all := tt9_all _ (List.mem_of_getElem? (i := 21) rfl)
theorem qw304 : Cond.instanceMethod yX7_clear ∈ lw_all := tt9_all _ (List.mem_of_getElem? (i := 22) rfl)
theorem qw305 : Cond.selects RX7 yX7_clear yX7_clear ∈ lw_all := tt9_all _ (List.mem_of_getElem? (i := 23) rfl)
theorem qw306 : Cond.code yX7_clear cX7_clear 1 (Option.none : Option Jvm.ClassFile.FieldType) ∈ lw_all := tt9_all _ (List.mem_of_getElem? (i := 24) rfl)
theorem qw307 : Cond.methodLink RX7 27 yX7_setNumber ∈ lw_all := tt10_all _ (List.mem_of_getElem? (i := 0) rfl)
theorem qw308 : Cond.instanceMethod yX7_setNumber ∈ lw_all := tt10_all _ (List.mem_of_getElem? (i := 1) rfl)
theorem qw309 : Cond.selects RX7 yX7_setNumber yX7_setNumber ∈ lw_all := tt10_all _ (List.mem_of_getElem? (i := 2) rfl)
theorem qw310 : Cond.code yX7_setNumber cX7_setNumber 3 (Option.none : Option Jvm.ClassFile.FieldType) ∈ lw_all := tt10_all _ (List.mem_of_getElem? (i := 3) rfl)
theorem qw312 : Cond.static yX11_setCell ∈ lw_all := tt10_all _ (List.mem_of_getElem? (i := 4) rfl)
theorem qw313 : Cond.code yX11_setCell cX11_setCell 3 (Option.none : Option Jvm.ClassFile.FieldType) ∈ lw_all := tt10_all _ (List.mem_of_getElem? (i := 5) rfl)
theorem qw314 : Cond.constant RX7 31 (33554432 : Int32) ∈ lw_all := tt10_all _ (List.mem_of_getElem? (i := 6) rfl)
theorem qw315 : Cond.methodLink RX7 32 yX7_addPerson ∈ lw_all := tt10_all _ (List.mem_of_getElem? (i := 7) rfl)
theorem qw316 : Cond.instanceMethod yX7_addPerson ∈ lw_all := tt10_all _ (List.mem_of_getElem? (i := 8) rfl)
theorem qw317 : Cond.selects RX7 yX7_addPerson yX7_addPerson ∈ lw_all := tt10_all _ (List.mem_of_getElem? (i := 9) rfl)
theorem qw318 : Cond.code yX7_addPerson cX7_addPerson 3 (Option.none : Option Jvm.ClassFile.FieldType) ∈ lw_all := tt10_all _ (List.mem_of_getElem? (i := 10) rfl)
theorem qw319 : Cond.constant RX7 35 (67108864 : Int32) ∈ lw_all := tt10_all _ (List.mem_of_getElem? (i := 11) rfl)
theorem qw320 : Cond.methodLink RX10 35 yX8_begin ∈ lw_all := tt10_all _ (List.mem_of_getElem? (i := 12) rfl)
theorem qw321 : Cond.instanceMethod yX8_begin ∈ lw_all := tt10_all _ (List.mem_of_getElem? (i := 13) rfl)
theorem qw322 : Cond.selects RX8 yX8_begin yX8_begin ∈ lw_all := tt10_all _ (List.mem_of_getElem? (i := 14) rfl)
theorem qw323 : Cond.code yX8_begin cX8_begin 2 (Option.none : Option Jvm.ClassFile.FieldType) ∈ lw_all := tt10_all _ (List.mem_of_getElem? (i := 15) rfl)
theorem qw324 : Cond.methodLink RX8 37 yX2_begin ∈ lw_all := tt10_all _ (List.mem_of_getElem? (i := 16) rfl)
theorem qw325 : Cond.instanceMethod yX2_begin ∈ lw_all := tt10_all _ (List.mem_of_getElem? (i := 17) rfl)
theorem qw326 : Cond.selects RX2 yX2_begin yX2_begin ∈ lw_all := tt10_all _ (List.mem_of_getElem? (i := 18) rfl)
theorem qw327 : Cond.code yX2_begin cX2_begin 3 (Option.none : Option Jvm.ClassFile.FieldType) ∈ lw_all := tt10_all _ (List.mem_of_getElem? (i := 19) rfl)
theorem qw328 : Cond.methodLink RX2 30 yX7_people ∈ lw_all := tt10_all _ (List.mem_of_getElem? (i := 20) rfl)
theorem qw329 : Cond.instanceMethod yX7_people ∈ lw_all := tt10_all _ (List.mem_of_getElem? (i := 21) rfl)
theorem qw330 : Cond.selects RX7 yX7_people yX7_people ∈ lw_all := tt10_all _ (List.mem_of_getElem? (i := 22) rfl)
theorem qw331 : Cond.code yX7_people cX7_people 1 (Option.some Jvm.ClassFile.FieldType.int) ∈ lw_all := tt10_all _ (List.mem_of_getElem? (i := 23) rfl)
theorem qw332 : Cond.methodLink RX2 36 yX7_firstBoatOf ∈ lw_all := tt10_all _ (List.mem_of_getElem? (i := 24) rfl)
theorem qw333 : Cond.instanceMethod yX7_firstBoatOf ∈ lw_all := tt11_all _ (List.mem_of_getElem? (i := 0) rfl)
theorem qw334 : Cond.selects RX7 yX7_firstBoatOf yX7_firstBoatOf ∈ lw_all := tt11_all _ (List.mem_of_getElem? (i := 1) rfl)
theorem qw335 : Cond.code yX7_firstBoatOf cX7_firstBoatOf 2 (Option.some Jvm.ClassFile.FieldType.int) ∈ lw_all := tt11_all _ (List.mem_of_getElem? (i := 2) rfl)
theorem qw337 : Cond.static yX11_cell ∈ lw_all := tt11_all _ (List.mem_of_getElem? (i := 3) rfl)
theorem qw338 : Cond.code yX11_cell cX11_cell 3 (Option.some Jvm.ClassFile.FieldType.int) ∈ lw_all := tt11_all _ (List.mem_of_getElem? (i := 4) rfl)
theorem qw340 : Cond.static yX11_fillRow ∈ lw_all := tt11_all _ (List.mem_of_getElem? (i := 5) rfl)
theorem qw341 : Cond.code yX11_fillRow cX11_fillRow 3 (Option.none : Option Jvm.ClassFile.FieldType) ∈ lw_all := tt11_all _ (List.mem_of_getElem? (i := 6) rfl)
theorem qw342 : Cond.methodLink RX8 41 yX9_begin ∈ lw_all := tt11_all _ (List.mem_of_getElem? (i := 7) rfl)
theorem qw343 : Cond.instanceMethod yX9_begin ∈ lw_all := tt11_all _ (List.mem_of_getElem? (i := 8) rfl)
theorem qw344 : Cond.selects RX9 yX9_begin yX9_begin ∈ lw_all := tt11_all _ (List.mem_of_getElem? (i := 9) rfl)
theorem qw345 : Cond.code yX9_begin cX9_begin 1 (Option.none : Option Jvm.ClassFile.FieldType) ∈ lw_all := tt11_all _ (List.mem_of_getElem? (i := 10) rfl)
theorem qw347 : Cond.methodLink RX8 43 yX5_clear ∈ lw_all := tt11_all _ (List.mem_of_getElem? (i := 11) rfl)
theorem qw348 : Cond.instanceMethod yX5_clear ∈ lw_all := tt11_all _ (List.mem_of_getElem? (i := 12) rfl)
theorem qw349 : Cond.selects RX5 yX5_clear yX5_clear ∈ lw_all := tt11_all _ (List.mem_of_getElem? (i := 13) rfl)
theorem qw350 : Cond.code yX5_clear cX5_clear 1 (Option.none : Option Jvm.ClassFile.FieldType) ∈ lw_all := tt11_all _ (List.mem_of_getElem? (i := 14) rfl)
theorem qw351 : Cond.methodLink RX8 53 yX8_beginVote ∈ lw_all := tt11_all _ (List.mem_of_getElem? (i := 15) rfl)
theorem qw352 : Cond.instanceMethod yX8_beginVote ∈ lw_all := tt11_all _ (List.mem_of_getElem? (i := 16) rfl)
theorem qw353 : Cond.selects RX8 yX8_beginVote yX8_beginVote ∈ lw_all := tt11_all _ (List.mem_of_getElem? (i := 17) rfl)
theorem qw354 : Cond.code yX8_beginVote cX8_beginVote 2 (Option.none : Option Jvm.ClassFile.FieldType) ∈ lw_all := tt11_all _ (List.mem_of_getElem? (i := 18) rfl)
theorem qw355 : Cond.fieldLink RX11 10 "StickVotes" "parser" "LStickVotes$Parser;" ∈ lw_all := tt11_all _ (List.mem_of_getElem? (i := 19) rfl)
theorem qw356 : Cond.fieldLink RX11 20 "StickVotes" "tape" "LStickVotes$Bytes;" ∈ lw_all := tt11_all _ (List.mem_of_getElem? (i := 20) rfl)
theorem qw357 : Cond.fieldLink RX11 24 "StickVotes" "village" "LStickVotes$Village;" ∈ lw_all := tt11_all _ (List.mem_of_getElem? (i := 21) rfl)
theorem qw358 : Cond.fieldLink RX11 32 "StickVotes" "setup" "LStickVotes$Setup;" ∈ lw_all := tt11_all _ (List.mem_of_getElem? (i := 22) rfl)
theorem qw359 : Cond.fieldLink RX11 37 "StickVotes" "now" "LStickVotes$State;" ∈ lw_all := tt11_all _ (List.mem_of_getElem? (i := 23) rfl)
theorem qw360 : Cond.fieldLink RX11 41 "StickVotes" "history" "LStickVotes$History;" ∈ lw_all := tt11_all _ (List.mem_of_getElem? (i := 24) rfl)
theorem qw361 : Cond.fieldLink RX11 48 "StickVotes" "kept" "[LStickVotes$State;" ∈ lw_all := tt12_all _ (List.mem_of_getElem? (i := 0) rfl)
theorem qw362 : Cond.fieldLink RX11 52 "StickVotes" "isKept" "[Z" ∈ lw_all := tt12_all _ (List.mem_of_getElem? (i := 1) rfl)
theorem qw363 : Cond.fieldLink RX11 59 "StickVotes" "scribe" "LStickVotes$Scribe;" ∈ lw_all := tt12_all _ (List.mem_of_getElem? (i := 2) rfl)
theorem qw364 : Cond.fieldLink RX11 63 "StickVotes" "errorAt" "I" ∈ lw_all := tt12_all _ (List.mem_of_getElem? (i := 3) rfl)
theorem qw365 : Cond.laysFinal RX11 "StickVotes" "parser" "LStickVotes$Parser;" ∈ lw_all := tt12_all _ (List.mem_of_getElem? (i := 4) rfl)
theorem qw367 : Cond.laysFinal RX11 "StickVotes" "tape" "LStickVotes$Bytes;" ∈ lw_all := tt12_all _ (List.mem_of_getElem? (i := 5) rfl)
theorem qw369 : Cond.laysFinal RX11 "StickVotes" "village" "LStickVotes$Village;" ∈ lw_all := tt12_all _ (List.mem_of_getElem? (i := 6) rfl)
theorem qw371 : Cond.laysFinal RX11 "StickVotes" "setup" "LStickVotes$Setup;" ∈ lw_all := tt12_all _ (List.mem_of_getElem? (i := 7) rfl)
theorem qw373 : Cond.laysFinal RX11 "StickVotes" "now" "LStickVotes$State;" ∈ lw_all := tt12_all _ (List.mem_of_getElem? (i := 8) rfl)
theorem qw375 : Cond.laysFinal RX11 "StickVotes" "history" "LStickVotes$History;" ∈ lw_all := tt12_all _ (List.mem_of_getElem? (i := 9) rfl)
theorem qw377 : Cond.laysFinal RX11 "StickVotes" "kept" "[LStickVotes$State;" ∈ lw_all := tt12_all _ (List.mem_of_getElem? (i := 10) rfl)
theorem qw379 : Cond.laysFinal RX11 "StickVotes" "isKept" "[Z" ∈ lw_all := tt12_all _ (List.mem_of_getElem? (i := 11) rfl)
theorem qw381 : Cond.laysFinal RX11 "StickVotes" "scribe" "LStickVotes$Scribe;" ∈ lw_all := tt12_all _ (List.mem_of_getElem? (i := 12) rfl)
theorem qw383 : Cond.lays RX11 "StickVotes" "errorAt" "I" ∈ lw_all := tt12_all _ (List.mem_of_getElem? (i := 13) rfl)
theorem qw386 : Cond.methodLink RL 13 yX11_append ∈ lw_all := tt12_all _ (List.mem_of_getElem? (i := 14) rfl)
theorem qw387 : Cond.instanceMethod yX11_append ∈ lw_all := tt12_all _ (List.mem_of_getElem? (i := 15) rfl)
theorem qw388 : Cond.selects RX11 yX11_append yX11_append ∈ lw_all := tt12_all _ (List.mem_of_getElem? (i := 16) rfl)
theorem qw389 : Cond.code yX11_append cX11_append 6 (Option.some Jvm.ClassFile.FieldType.int) ∈ lw_all := tt12_all _ (List.mem_of_getElem? (i := 17) rfl)
theorem qw390 : Cond.methodLink RX11 70 yX1_length ∈ lw_all := tt12_all _ (List.mem_of_getElem? (i := 18) rfl)
theorem qw391 : Cond.instanceMethod yX1_length ∈ lw_all := tt12_all _ (List.mem_of_getElem? (i := 19) rfl)
theorem qw392 : Cond.selects RX1 yX1_length yX1_length ∈ lw_all := tt12_all _ (List.mem_of_getElem? (i := 20) rfl)
theorem qw393 : Cond.code yX1_length cX1_length 1 (Option.some Jvm.ClassFile.FieldType.int) ∈ lw_all := tt12_all _ (List.mem_of_getElem? (i := 21) rfl)
theorem qw394 : Cond.methodLink RX11 76 yX1_addWhole ∈ lw_all := tt12_all _ (List.mem_of_getElem? (i := 22) rfl)
theorem qw395 : Cond.instanceMethod yX1_addWhole ∈ lw_all := tt12_all _ (List.mem_of_getElem? (i := 23) rfl)
theorem qw396 : Cond.selects RX1 yX1_addWhole yX1_addWhole ∈ lw_all := tt12_all _ (List.mem_of_getElem? (i := 24) rfl)
theorem qw397 : Cond.code yX1_addWhole cX1_addWhole 3 (Option.none : Option Jvm.ClassFile.FieldType) ∈ lw_all := tt13_all _ (List.mem_of_getElem? (i := 0) rfl)
theorem qw398 : Cond.methodLink RX1 25 yX1_add ∈ lw_all := tt13_all _ (List.mem_of_getElem? (i := 1) rfl)
theorem qw399 : Cond.instanceMethod yX1_add ∈ lw_all := tt13_all _ (List.mem_of_getElem? (i := 2) rfl)
theorem qw400 : Cond.selects RX1 yX1_add yX1_add ∈ lw_all := tt13_all _ (List.mem_of_getElem? (i := 3) rfl)
theorem qw401 : Cond.code yX1_add cX1_add 2 (Option.none : Option Jvm.ClassFile.FieldType) ∈ lw_all := tt13_all _ (List.mem_of_getElem? (i := 4) rfl)
theorem qw402 : Cond.methodLink RL 18 yX11_truncate ∈ lw_all := tt13_all _ (List.mem_of_getElem? (i := 5) rfl)
theorem qw403 : Cond.instanceMethod yX11_truncate ∈ lw_all := tt13_all _ (List.mem_of_getElem? (i := 6) rfl)
theorem qw404 : Cond.selects RX11 yX11_truncate yX11_truncate ∈ lw_all := tt13_all _ (List.mem_of_getElem? (i := 7) rfl)
theorem qw405 : Cond.code yX11_truncate cX11_truncate 2 (Option.some Jvm.ClassFile.FieldType.int) ∈ lw_all := tt13_all _ (List.mem_of_getElem? (i := 8) rfl)
theorem qw406 : Cond.methodLink RX11 80 yX1_cutTo ∈ lw_all := tt13_all _ (List.mem_of_getElem? (i := 9) rfl)
theorem qw407 : Cond.instanceMethod yX1_cutTo ∈ lw_all := tt13_all _ (List.mem_of_getElem? (i := 10) rfl)
theorem qw408 : Cond.selects RX1 yX1_cutTo yX1_cutTo ∈ lw_all := tt13_all _ (List.mem_of_getElem? (i := 11) rfl)
theorem qw409 : Cond.code yX1_cutTo cX1_cutTo 2 (Option.none : Option Jvm.ClassFile.FieldType) ∈ lw_all := tt13_all _ (List.mem_of_getElem? (i := 12) rfl)
theorem qw410 : Cond.methodLink RL 23 yX11_load ∈ lw_all := tt13_all _ (List.mem_of_getElem? (i := 13) rfl)
theorem qw411 : Cond.instanceMethod yX11_load ∈ lw_all := tt13_all _ (List.mem_of_getElem? (i := 14) rfl)
theorem qw412 : Cond.selects RX11 yX11_load yX11_load ∈ lw_all := tt13_all _ (List.mem_of_getElem? (i := 15) rfl)
theorem qw413 : Cond.code yX11_load cX11_load 2 (Option.some Jvm.ClassFile.FieldType.int) ∈ lw_all := tt13_all _ (List.mem_of_getElem? (i := 16) rfl)
theorem qw414 : Cond.methodLink RX11 83 yX4_readTape ∈ lw_all := tt13_all _ (List.mem_of_getElem? (i := 17) rfl)
theorem qw415 : Cond.instanceMethod yX4_readTape ∈ lw_all := tt13_all _ (List.mem_of_getElem? (i := 18) rfl)
theorem qw416 : Cond.selects RX4 yX4_readTape yX4_readTape ∈ lw_all := tt13_all _ (List.mem_of_getElem? (i := 19) rfl)
theorem qw417 : Cond.code yX4_readTape cX4_readTape 1 (Option.some Jvm.ClassFile.FieldType.int) ∈ lw_all := tt13_all _ (List.mem_of_getElem? (i := 20) rfl)
theorem qw418 : Cond.methodLink RX4 27 yX7_clear ∈ lw_all := tt13_all _ (List.mem_of_getElem? (i := 21) rfl)
theorem qw419 : Cond.methodLink RX4 34 yX4_advance ∈ lw_all := tt13_all _ (List.mem_of_getElem? (i := 22) rfl)
theorem qw421 : Cond.instanceMethod yX4_advance ∈ lw_all := tt13_all _ (List.mem_of_getElem? (i := 23) rfl)
theorem qw422 : Cond.code yX4_advance cX4_advance 1 (Option.none : Option Jvm.ClassFile.FieldType) ∈ lw_all := tt13_all _ (List.mem_of_getElem? (i := 24) rfl)
theorem qw423 : Cond.methodLink RX4 126 yX1_length ∈ lw_all := tt14_all _ (List.mem_of_getElem? (i := 0) rfl)
theorem qw424 : Cond.methodLink RX4 129 yX1_at ∈ lw_all := tt14_all _ (List.mem_of_getElem? (i := 1) rfl)
theorem qw425 : Cond.instanceMethod yX1_at ∈ lw_all := tt14_all _ (List.mem_of_getElem? (i := 2) rfl)
theorem qw426 : Cond.selects RX1 yX1_at yX1_at ∈ lw_all := tt14_all _ (List.mem_of_getElem? (i := 3) rfl)
theorem qw427 : Cond.code yX1_at cX1_at 2 (Option.some Jvm.ClassFile.FieldType.int) ∈ lw_all := tt14_all _ (List.mem_of_getElem? (i := 4) rfl)
theorem qw428 : Cond.methodLink RX4 132 yX4_isSpace ∈ lw_all := tt14_all _ (List.mem_of_getElem? (i := 5) rfl)
theorem qw429 : Cond.static yX4_isSpace ∈ lw_all := tt14_all _ (List.mem_of_getElem? (i := 6) rfl)
theorem qw430 : Cond.code yX4_isSpace cX4_isSpace 1 (Option.some Jvm.ClassFile.FieldType.boolean) ∈ lw_all := tt14_all _ (List.mem_of_getElem? (i := 7) rfl)
theorem qw431 : Cond.methodLink RX4 136 yX4_isLetter ∈ lw_all := tt14_all _ (List.mem_of_getElem? (i := 8) rfl)
theorem qw432 : Cond.static yX4_isLetter ∈ lw_all := tt14_all _ (List.mem_of_getElem? (i := 9) rfl)
theorem qw433 : Cond.code yX4_isLetter cX4_isLetter 1 (Option.some Jvm.ClassFile.FieldType.boolean) ∈ lw_all := tt14_all _ (List.mem_of_getElem? (i := 10) rfl)
theorem qw434 : Cond.methodLink RX4 139 yX4_isDigit ∈ lw_all := tt14_all _ (List.mem_of_getElem? (i := 11) rfl)
theorem qw435 : Cond.static yX4_isDigit ∈ lw_all := tt14_all _ (List.mem_of_getElem? (i := 12) rfl)
theorem qw436 : Cond.code yX4_isDigit cX4_isDigit 1 (Option.some Jvm.ClassFile.FieldType.boolean) ∈ lw_all := tt14_all _ (List.mem_of_getElem? (i := 13) rfl)
theorem qw437 : Cond.methodLink RX4 37 yX4_readNumbers ∈ lw_all := tt14_all _ (List.mem_of_getElem? (i := 14) rfl)
theorem qw439 : Cond.instanceMethod yX4_readNumbers ∈ lw_all := tt14_all _ (List.mem_of_getElem? (i := 15) rfl)
theorem qw440 : Cond.code yX4_readNumbers cX4_readNumbers 1 (Option.some Jvm.ClassFile.FieldType.boolean) ∈ lw_all := tt14_all _ (List.mem_of_getElem? (i := 16) rfl)
theorem qw442 : Cond.methodLink RX4 52 yX4_skipKeyword ∈ lw_all := tt14_all _ (List.mem_of_getElem? (i := 17) rfl)
theorem qw444 : Cond.instanceMethod yX4_skipKeyword ∈ lw_all := tt14_all _ (List.mem_of_getElem? (i := 18) rfl)
theorem qw445 : Cond.code yX4_skipKeyword cX4_skipKeyword 2 (Option.some Jvm.ClassFile.FieldType.boolean) ∈ lw_all := tt14_all _ (List.mem_of_getElem? (i := 19) rfl)
theorem qw446 : Cond.methodLink RX4 80 yX4_isKeyword ∈ lw_all := tt14_all _ (List.mem_of_getElem? (i := 20) rfl)
theorem qw448 : Cond.instanceMethod yX4_isKeyword ∈ lw_all := tt14_all _ (List.mem_of_getElem? (i := 21) rfl)
theorem qw449 : Cond.code yX4_isKeyword cX4_isKeyword 2 (Option.some Jvm.ClassFile.FieldType.boolean) ∈ lw_all := tt14_all _ (List.mem_of_getElem? (i := 22) rfl)
theorem qw450 : Cond.methodLink RX4 120 yX4_reads ∈ lw_all := tt14_all _ (List.mem_of_getElem? (i := 23) rfl)
theorem qw452 : Cond.instanceMethod yX4_reads ∈ lw_all := tt14_all _ (List.mem_of_getElem? (i := 24) rfl)
theorem qw453 : Cond.code yX4_reads cX4_reads 3 (Option.some Jvm.ClassFile.FieldType.boolean) ∈ lw_all := tt15_all _ (List.mem_of_getElem? (i := 0) rfl)
theorem qw454 : Cond.methodLink RX4 142 yJ0_length_8abf5 ∈ lw_all := tt15_all _ (List.mem_of_getElem? (i := 1) rfl)
theorem qw455 : Cond.instanceMethod yJ0_length_8abf5 ∈ lw_all := tt15_all _ (List.mem_of_getElem? (i := 2) rfl)
theorem qw456 : Cond.selects RJ0 yJ0_length_8abf5 yJ0_length_8abf5 ∈ lw_all := tt15_all _ (List.mem_of_getElem? (i := 3) rfl)
theorem qw457 : Cond.code yJ0_length_8abf5 cJ0_length_8abf5 1 (Option.some Jvm.ClassFile.FieldType.int) ∈ lw_all := tt15_all _ (List.mem_of_getElem? (i := 4) rfl)
theorem qw458 : Cond.methodLink RJ0 335 yJ0_coder_7d493 ∈ lw_all := tt15_all _ (List.mem_of_getElem? (i := 5) rfl)
theorem qw459 : Cond.instanceMethod yJ0_coder_7d493 ∈ lw_all := tt15_all _ (List.mem_of_getElem? (i := 6) rfl)
theorem qw460 : Cond.selects RJ0 yJ0_coder_7d493 yJ0_coder_7d493 ∈ lw_all := tt15_all _ (List.mem_of_getElem? (i := 7) rfl)
theorem qw461 : Cond.code yJ0_coder_7d493 cJ0_coder_7d493 1 (Option.some Jvm.ClassFile.FieldType.byte) ∈ lw_all := tt15_all _ (List.mem_of_getElem? (i := 8) rfl)
theorem qw462 : Cond.fieldLink RJ0 38 "java/lang/String" "COMPACT_STRINGS" "Z" ∈ lw_all := tt15_all _ (List.mem_of_getElem? (i := 9) rfl)
theorem qw464 : Cond.methodLink RX4 145 yJ0_charAt_5068e ∈ lw_all := tt15_all _ (List.mem_of_getElem? (i := 10) rfl)
theorem qw465 : Cond.instanceMethod yJ0_charAt_5068e ∈ lw_all := tt15_all _ (List.mem_of_getElem? (i := 11) rfl)
theorem qw466 : Cond.selects RJ0 yJ0_charAt_5068e yJ0_charAt_5068e ∈ lw_all := tt15_all _ (List.mem_of_getElem? (i := 12) rfl)
theorem qw467 : Cond.code yJ0_charAt_5068e cJ0_charAt_5068e 2 (Option.some Jvm.ClassFile.FieldType.char) ∈ lw_all := tt15_all _ (List.mem_of_getElem? (i := 13) rfl)
theorem qw468 : Cond.methodLink RJ0 492 yJ0_isLatin1_aae02 ∈ lw_all := tt15_all _ (List.mem_of_getElem? (i := 14) rfl)
theorem qw469 : Cond.instanceMethod yJ0_isLatin1_aae02 ∈ lw_all := tt15_all _ (List.mem_of_getElem? (i := 15) rfl)
theorem qw470 : Cond.selects RJ0 yJ0_isLatin1_aae02 yJ0_isLatin1_aae02 ∈ lw_all := tt15_all _ (List.mem_of_getElem? (i := 16) rfl)
theorem qw471 : Cond.code yJ0_isLatin1_aae02 cJ0_isLatin1_aae02 1 (Option.some Jvm.ClassFile.FieldType.boolean) ∈ lw_all := tt15_all _ (List.mem_of_getElem? (i := 17) rfl)
theorem qw472 : Cond.methodLink RJ0 495 yJ1_charAt_3b067 ∈ lw_all := tt15_all _ (List.mem_of_getElem? (i := 18) rfl)
theorem qw473 : Cond.static yJ1_charAt_3b067 ∈ lw_all := tt15_all _ (List.mem_of_getElem? (i := 19) rfl)
theorem qw474 : Cond.code yJ1_charAt_3b067 cJ1_charAt_3b067 2 (Option.some Jvm.ClassFile.FieldType.char) ∈ lw_all := tt15_all _ (List.mem_of_getElem? (i := 20) rfl)
theorem qw475 : Cond.methodLink RJ1 9 yJ0_checkIndex_df160 ∈ lw_all := tt15_all _ (List.mem_of_getElem? (i := 21) rfl)
theorem qw476 : Cond.static yJ0_checkIndex_df160 ∈ lw_all := tt15_all _ (List.mem_of_getElem? (i := 22) rfl)
theorem qw477 : Cond.code yJ0_checkIndex_df160 cJ0_checkIndex_df160 2 (Option.none : Option Jvm.ClassFile.FieldType) ∈ lw_all := tt15_all _ (List.mem_of_getElem? (i := 23) rfl)
theorem qw478 : Cond.fieldLink RJ0 1053 "jdk/internal/util/Preconditions" "SIOOBE_FORMATTER" "Ljava/util/function/BiFunction;" ∈ lw_all := tt15_all _ (List.mem_of_getElem? (i := 24) rfl)
theorem qw480 : Cond.methodLink RJ0 1059 yJ3_checkIndex_8e157 ∈ lw_all := tt16_all _ (List.mem_of_getElem? (i := 0) rfl)
theorem qw481 : Cond.static yJ3_checkIndex_8e157 ∈ lw_all := tt16_all _ (List.mem_of_getElem? (i := 1) rfl)
theorem qw482 : Cond.code yJ3_checkIndex_8e157 cJ3_checkIndex_8e157 3 (Option.some Jvm.ClassFile.FieldType.int) ∈ lw_all := tt16_all _ (List.mem_of_getElem? (i := 2) rfl)
theorem qw483 : Cond.methodLink RJ0 498 yJ2_charAt_3b067 ∈ lw_all := tt16_all _ (List.mem_of_getElem? (i := 3) rfl)
theorem qw484 : Cond.static yJ2_charAt_3b067 ∈ lw_all := tt16_all _ (List.mem_of_getElem? (i := 4) rfl)
theorem qw485 : Cond.code yJ2_charAt_3b067 cJ2_charAt_3b067 2 (Option.some Jvm.ClassFile.FieldType.char) ∈ lw_all := tt16_all _ (List.mem_of_getElem? (i := 5) rfl)
theorem qw486 : Cond.methodLink RJ2 67 yJ2_checkIndex_2214a ∈ lw_all := tt16_all _ (List.mem_of_getElem? (i := 6) rfl)
theorem qw487 : Cond.static yJ2_checkIndex_2214a ∈ lw_all := tt16_all _ (List.mem_of_getElem? (i := 7) rfl)
theorem qw488 : Cond.code yJ2_checkIndex_2214a cJ2_checkIndex_2214a 2 (Option.none : Option Jvm.ClassFile.FieldType) ∈ lw_all := tt16_all _ (List.mem_of_getElem? (i := 8) rfl)
theorem qw489 : Cond.methodLink RJ2 48 yJ2_length_9d52b ∈ lw_all := tt16_all _ (List.mem_of_getElem? (i := 9) rfl)
theorem qw490 : Cond.static yJ2_length_9d52b ∈ lw_all := tt16_all _ (List.mem_of_getElem? (i := 10) rfl)
theorem qw491 : Cond.code yJ2_length_9d52b cJ2_length_9d52b 1 (Option.some Jvm.ClassFile.FieldType.int) ∈ lw_all := tt16_all _ (List.mem_of_getElem? (i := 11) rfl)
theorem qw492 : Cond.methodLink RJ2 414 yJ0_checkIndex_df160 ∈ lw_all := tt16_all _ (List.mem_of_getElem? (i := 12) rfl)
theorem qw493 : Cond.methodLink RJ2 71 yJ2_getChar_3b067 ∈ lw_all := tt16_all _ (List.mem_of_getElem? (i := 13) rfl)
theorem qw494 : Cond.static yJ2_getChar_3b067 ∈ lw_all := tt16_all _ (List.mem_of_getElem? (i := 14) rfl)
theorem qw495 : Cond.code yJ2_getChar_3b067 cJ2_getChar_3b067 2 (Option.some Jvm.ClassFile.FieldType.char) ∈ lw_all := tt16_all _ (List.mem_of_getElem? (i := 15) rfl)
theorem qw496 : Cond.fieldLink RJ2 44 "java/lang/StringUTF16" "$assertionsDisabled" "Z" ∈ lw_all := tt16_all _ (List.mem_of_getElem? (i := 16) rfl)
theorem qw498 : Cond.fieldLink RJ2 59 "java/lang/StringUTF16" "HI_BYTE_SHIFT" "I" ∈ lw_all := tt16_all _ (List.mem_of_getElem? (i := 17) rfl)
theorem qw500 : Cond.fieldLink RJ2 63 "java/lang/StringUTF16" "LO_BYTE_SHIFT" "I" ∈ lw_all := tt16_all _ (List.mem_of_getElem? (i := 18) rfl)
theorem qw502 : Cond.methodLink RX4 56 yX4_readNumber ∈ lw_all := tt16_all _ (List.mem_of_getElem? (i := 19) rfl)
theorem qw504 : Cond.instanceMethod yX4_readNumber ∈ lw_all := tt16_all _ (List.mem_of_getElem? (i := 20) rfl)
theorem qw505 : Cond.code yX4_readNumber cX4_readNumber 5 (Option.some Jvm.ClassFile.FieldType.boolean) ∈ lw_all := tt16_all _ (List.mem_of_getElem? (i := 21) rfl)
theorem qw506 : Cond.methodLink RX4 114 yX4_digits ∈ lw_all := tt16_all _ (List.mem_of_getElem? (i := 22) rfl)
theorem qw508 : Cond.instanceMethod yX4_digits ∈ lw_all := tt16_all _ (List.mem_of_getElem? (i := 23) rfl)
theorem qw509 : Cond.code yX4_digits cX4_digits 3 (Option.some Jvm.ClassFile.FieldType.int) ∈ lw_all := tt16_all _ (List.mem_of_getElem? (i := 24) rfl)
theorem qw510 : Cond.methodLink RX4 117 yX7_setNumber ∈ lw_all := tt17_all _ (List.mem_of_getElem? (i := 0) rfl)
theorem qw512 : Cond.methodLink RX4 62 yX4_readShares ∈ lw_all := tt17_all _ (List.mem_of_getElem? (i := 1) rfl)
theorem qw514 : Cond.instanceMethod yX4_readShares ∈ lw_all := tt17_all _ (List.mem_of_getElem? (i := 2) rfl)
theorem qw515 : Cond.code yX4_readShares cX4_readShares 2 (Option.some Jvm.ClassFile.FieldType.boolean) ∈ lw_all := tt17_all _ (List.mem_of_getElem? (i := 3) rfl)
theorem qw521 : Cond.methodLink RX4 75 yX4_skipSemicolon ∈ lw_all := tt17_all _ (List.mem_of_getElem? (i := 4) rfl)
theorem qw523 : Cond.instanceMethod yX4_skipSemicolon ∈ lw_all := tt17_all _ (List.mem_of_getElem? (i := 5) rfl)
theorem qw524 : Cond.code yX4_skipSemicolon cX4_skipSemicolon 1 (Option.some Jvm.ClassFile.FieldType.boolean) ∈ lw_all := tt17_all _ (List.mem_of_getElem? (i := 6) rfl)
theorem qw525 : Cond.methodLink RX4 41 yX4_readBoats ∈ lw_all := tt17_all _ (List.mem_of_getElem? (i := 7) rfl)
theorem qw527 : Cond.instanceMethod yX4_readBoats ∈ lw_all := tt17_all _ (List.mem_of_getElem? (i := 8) rfl)
theorem qw528 : Cond.code yX4_readBoats cX4_readBoats 2 (Option.some Jvm.ClassFile.FieldType.boolean) ∈ lw_all := tt17_all _ (List.mem_of_getElem? (i := 9) rfl)
theorem qw530 : Cond.methodLink RX4 83 yX4_isName ∈ lw_all := tt17_all _ (List.mem_of_getElem? (i := 10) rfl)
theorem qw532 : Cond.instanceMethod yX4_isName ∈ lw_all := tt17_all _ (List.mem_of_getElem? (i := 11) rfl)
theorem qw533 : Cond.code yX4_isName cX4_isName 1 (Option.some Jvm.ClassFile.FieldType.boolean) ∈ lw_all := tt17_all _ (List.mem_of_getElem? (i := 12) rfl)
theorem qw534 : Cond.methodLink RX4 123 yX4_isAnyKeyword ∈ lw_all := tt17_all _ (List.mem_of_getElem? (i := 13) rfl)
theorem qw536 : Cond.instanceMethod yX4_isAnyKeyword ∈ lw_all := tt17_all _ (List.mem_of_getElem? (i := 14) rfl)
theorem qw537 : Cond.code yX4_isAnyKeyword cX4_isAnyKeyword 1 (Option.some Jvm.ClassFile.FieldType.boolean) ∈ lw_all := tt17_all _ (List.mem_of_getElem? (i := 15) rfl)
theorem qw540 : Cond.methodLink RX4 86 yX4_letters ∈ lw_all := tt17_all _ (List.mem_of_getElem? (i := 16) rfl)
theorem qw542 : Cond.instanceMethod yX4_letters ∈ lw_all := tt17_all _ (List.mem_of_getElem? (i := 17) rfl)
theorem qw543 : Cond.code yX4_letters cX4_letters 4 (Option.some Jvm.ClassFile.FieldType.int) ∈ lw_all := tt17_all _ (List.mem_of_getElem? (i := 18) rfl)
theorem qw544 : Cond.methodLink RX4 90 yX7_boatNamed ∈ lw_all := tt17_all _ (List.mem_of_getElem? (i := 19) rfl)
theorem qw545 : Cond.instanceMethod yX7_boatNamed ∈ lw_all := tt17_all _ (List.mem_of_getElem? (i := 20) rfl)
theorem qw546 : Cond.selects RX7 yX7_boatNamed yX7_boatNamed ∈ lw_all := tt17_all _ (List.mem_of_getElem? (i := 21) rfl)
theorem qw547 : Cond.code yX7_boatNamed cX7_boatNamed 2 (Option.some Jvm.ClassFile.FieldType.int) ∈ lw_all := tt17_all _ (List.mem_of_getElem? (i := 22) rfl)
theorem qw548 : Cond.methodLink RX7 55 yX7_find ∈ lw_all := tt17_all _ (List.mem_of_getElem? (i := 23) rfl)
theorem qw549 : Cond.static yX7_find ∈ lw_all := tt17_all _ (List.mem_of_getElem? (i := 24) rfl)
theorem qw550 : Cond.code yX7_find cX7_find 4 (Option.some Jvm.ClassFile.FieldType.int) ∈ lw_all := tt18_all _ (List.mem_of_getElem? (i := 0) rfl)
theorem qw551 : Cond.methodLink RX4 94 yX7_addBoat ∈ lw_all := tt18_all _ (List.mem_of_getElem? (i := 1) rfl)
theorem qw552 : Cond.instanceMethod yX7_addBoat ∈ lw_all := tt18_all _ (List.mem_of_getElem? (i := 2) rfl)
theorem qw553 : Cond.selects RX7 yX7_addBoat yX7_addBoat ∈ lw_all := tt18_all _ (List.mem_of_getElem? (i := 3) rfl)
theorem qw554 : Cond.code yX7_addBoat cX7_addBoat 2 (Option.none : Option Jvm.ClassFile.FieldType) ∈ lw_all := tt18_all _ (List.mem_of_getElem? (i := 4) rfl)
theorem qw555 : Cond.methodLink RX4 44 yX4_readPeople ∈ lw_all := tt18_all _ (List.mem_of_getElem? (i := 5) rfl)
theorem qw557 : Cond.instanceMethod yX4_readPeople ∈ lw_all := tt18_all _ (List.mem_of_getElem? (i := 6) rfl)
theorem qw558 : Cond.code yX4_readPeople cX4_readPeople 2 (Option.some Jvm.ClassFile.FieldType.boolean) ∈ lw_all := tt18_all _ (List.mem_of_getElem? (i := 7) rfl)
theorem qw559 : Cond.methodLink RX4 102 yX4_readPerson ∈ lw_all := tt18_all _ (List.mem_of_getElem? (i := 8) rfl)
theorem qw561 : Cond.instanceMethod yX4_readPerson ∈ lw_all := tt18_all _ (List.mem_of_getElem? (i := 9) rfl)
theorem qw562 : Cond.code yX4_readPerson cX4_readPerson 3 (Option.some Jvm.ClassFile.FieldType.boolean) ∈ lw_all := tt18_all _ (List.mem_of_getElem? (i := 10) rfl)
theorem qw563 : Cond.methodLink RX4 105 yX7_personNamed ∈ lw_all := tt18_all _ (List.mem_of_getElem? (i := 11) rfl)
theorem qw564 : Cond.instanceMethod yX7_personNamed ∈ lw_all := tt18_all _ (List.mem_of_getElem? (i := 12) rfl)
theorem qw565 : Cond.selects RX7 yX7_personNamed yX7_personNamed ∈ lw_all := tt18_all _ (List.mem_of_getElem? (i := 13) rfl)
theorem qw566 : Cond.code yX7_personNamed cX7_personNamed 2 (Option.some Jvm.ClassFile.FieldType.int) ∈ lw_all := tt18_all _ (List.mem_of_getElem? (i := 14) rfl)
theorem qw567 : Cond.methodLink RX4 110 yX7_addPerson ∈ lw_all := tt18_all _ (List.mem_of_getElem? (i := 15) rfl)
theorem qw568 : Cond.methodLink RX11 89 yX10_beginAnew ∈ lw_all := tt18_all _ (List.mem_of_getElem? (i := 16) rfl)
theorem qw569 : Cond.instanceMethod yX10_beginAnew ∈ lw_all := tt18_all _ (List.mem_of_getElem? (i := 17) rfl)
theorem qw570 : Cond.selects RX10 yX10_beginAnew yX10_beginAnew ∈ lw_all := tt18_all _ (List.mem_of_getElem? (i := 18) rfl)
theorem qw571 : Cond.code yX10_beginAnew cX10_beginAnew 2 (Option.none : Option Jvm.ClassFile.FieldType) ∈ lw_all := tt18_all _ (List.mem_of_getElem? (i := 19) rfl)
theorem qw572 : Cond.methodLink RX10 39 yX7_copyFrom ∈ lw_all := tt18_all _ (List.mem_of_getElem? (i := 20) rfl)
theorem qw573 : Cond.instanceMethod yX7_copyFrom ∈ lw_all := tt18_all _ (List.mem_of_getElem? (i := 21) rfl)
theorem qw574 : Cond.selects RX7 yX7_copyFrom yX7_copyFrom ∈ lw_all := tt18_all _ (List.mem_of_getElem? (i := 22) rfl)
theorem qw575 : Cond.code yX7_copyFrom cX7_copyFrom 2 (Option.none : Option Jvm.ClassFile.FieldType) ∈ lw_all := tt18_all _ (List.mem_of_getElem? (i := 23) rfl)
theorem qw577 : Cond.static yX11_copyRow ∈ lw_all := tt18_all _ (List.mem_of_getElem? (i := 24) rfl)
theorem qw578 : Cond.code yX11_copyRow cX11_copyRow 2 (Option.none : Option Jvm.ClassFile.FieldType) ∈ lw_all := tt19_all _ (List.mem_of_getElem? (i := 0) rfl)
theorem qw579 : Cond.methodLink RX11 387 yJ9_min_7cf53 ∈ lw_all := tt19_all _ (List.mem_of_getElem? (i := 1) rfl)
theorem qw580 : Cond.static yJ9_min_7cf53 ∈ lw_all := tt19_all _ (List.mem_of_getElem? (i := 2) rfl)
theorem qw581 : Cond.code yJ9_min_7cf53 cJ9_min_7cf53 2 (Option.some Jvm.ClassFile.FieldType.int) ∈ lw_all := tt19_all _ (List.mem_of_getElem? (i := 3) rfl)
theorem qw582 : Cond.methodLink RX11 390 ⟨"java/lang/System", "arraycopy", "(Ljava/lang/Object;ILjava/lang/Object;II)V"⟩ ∈ lw_all := tt19_all _ (List.mem_of_getElem? (i := 4) rfl)
theorem qw583 : Cond.static ⟨"java/lang/System", "arraycopy", "(Ljava/lang/Object;ILjava/lang/Object;II)V"⟩ ∈ lw_all := tt19_all _ (List.mem_of_getElem? (i := 5) rfl)
theorem qw584 : Cond.native ⟨"java/lang/System", "arraycopy", "(Ljava/lang/Object;ILjava/lang/Object;II)V"⟩ ∈ lw_all := tt19_all _ (List.mem_of_getElem? (i := 6) rfl)
theorem qw585 : Cond.methodLink RX11 93 yX3_forget ∈ lw_all := tt19_all _ (List.mem_of_getElem? (i := 7) rfl)
theorem qw586 : Cond.instanceMethod yX3_forget ∈ lw_all := tt19_all _ (List.mem_of_getElem? (i := 8) rfl)
theorem qw587 : Cond.selects RX3 yX3_forget yX3_forget ∈ lw_all := tt19_all _ (List.mem_of_getElem? (i := 9) rfl)
theorem qw588 : Cond.code yX3_forget cX3_forget 1 (Option.none : Option Jvm.ClassFile.FieldType) ∈ lw_all := tt19_all _ (List.mem_of_getElem? (i := 10) rfl)
theorem qw589 : Cond.methodLink RX11 96 yX7_people ∈ lw_all := tt19_all _ (List.mem_of_getElem? (i := 11) rfl)
theorem qw590 : Cond.methodLink RL 28 yX11_errorPosition ∈ lw_all := tt19_all _ (List.mem_of_getElem? (i := 12) rfl)
theorem qw591 : Cond.instanceMethod yX11_errorPosition ∈ lw_all := tt19_all _ (List.mem_of_getElem? (i := 13) rfl)
theorem qw592 : Cond.selects RX11 yX11_errorPosition yX11_errorPosition ∈ lw_all := tt19_all _ (List.mem_of_getElem? (i := 14) rfl)
theorem qw593 : Cond.code yX11_errorPosition cX11_errorPosition 1 (Option.some Jvm.ClassFile.FieldType.int) ∈ lw_all := tt19_all _ (List.mem_of_getElem? (i := 15) rfl)
theorem qw594 : Cond.methodLink RL 32 yX11_sail ∈ lw_all := tt19_all _ (List.mem_of_getElem? (i := 16) rfl)
theorem qw595 : Cond.instanceMethod yX11_sail ∈ lw_all := tt19_all _ (List.mem_of_getElem? (i := 17) rfl)
theorem qw596 : Cond.selects RX11 yX11_sail yX11_sail ∈ lw_all := tt19_all _ (List.mem_of_getElem? (i := 18) rfl)
theorem qw597 : Cond.code yX11_sail cX11_sail 3 (Option.some Jvm.ClassFile.FieldType.int) ∈ lw_all := tt19_all _ (List.mem_of_getElem? (i := 19) rfl)
theorem qw598 : Cond.methodLink RX11 101 yX11_isBoat ∈ lw_all := tt19_all _ (List.mem_of_getElem? (i := 20) rfl)
theorem qw600 : Cond.instanceMethod yX11_isBoat ∈ lw_all := tt19_all _ (List.mem_of_getElem? (i := 21) rfl)
theorem qw601 : Cond.code yX11_isBoat cX11_isBoat 2 (Option.some Jvm.ClassFile.FieldType.boolean) ∈ lw_all := tt19_all _ (List.mem_of_getElem? (i := 22) rfl)
theorem qw602 : Cond.methodLink RX11 235 yX7_boats ∈ lw_all := tt19_all _ (List.mem_of_getElem? (i := 23) rfl)
theorem qw603 : Cond.instanceMethod yX7_boats ∈ lw_all := tt19_all _ (List.mem_of_getElem? (i := 24) rfl)
theorem qw604 : Cond.selects RX7 yX7_boats yX7_boats ∈ lw_all := tt20_all _ (List.mem_of_getElem? (i := 0) rfl)
theorem qw605 : Cond.code yX7_boats cX7_boats 1 (Option.some Jvm.ClassFile.FieldType.int) ∈ lw_all := tt20_all _ (List.mem_of_getElem? (i := 1) rfl)
theorem qw606 : Cond.methodLink RX11 307 yX11_isIn ∈ lw_all := tt20_all _ (List.mem_of_getElem? (i := 2) rfl)
theorem qw607 : Cond.static yX11_isIn ∈ lw_all := tt20_all _ (List.mem_of_getElem? (i := 3) rfl)
theorem qw608 : Cond.code yX11_isIn cX11_isIn 2 (Option.some Jvm.ClassFile.FieldType.boolean) ∈ lw_all := tt20_all _ (List.mem_of_getElem? (i := 4) rfl)
theorem qw609 : Cond.methodLink RX11 105 yX11_isDays ∈ lw_all := tt20_all _ (List.mem_of_getElem? (i := 5) rfl)
theorem qw610 : Cond.static yX11_isDays ∈ lw_all := tt20_all _ (List.mem_of_getElem? (i := 6) rfl)
theorem qw611 : Cond.code yX11_isDays cX11_isDays 1 (Option.some Jvm.ClassFile.FieldType.boolean) ∈ lw_all := tt20_all _ (List.mem_of_getElem? (i := 7) rfl)
theorem qw612 : Cond.methodLink RX11 112 yX2_isOut ∈ lw_all := tt20_all _ (List.mem_of_getElem? (i := 8) rfl)
theorem qw613 : Cond.instanceMethod yX2_isOut ∈ lw_all := tt20_all _ (List.mem_of_getElem? (i := 9) rfl)
theorem qw614 : Cond.selects RX2 yX2_isOut yX2_isOut ∈ lw_all := tt20_all _ (List.mem_of_getElem? (i := 10) rfl)
theorem qw615 : Cond.code yX2_isOut cX2_isOut 2 (Option.some Jvm.ClassFile.FieldType.boolean) ∈ lw_all := tt20_all _ (List.mem_of_getElem? (i := 11) rfl)
theorem qw617 : Cond.methodLink RX11 117 yX3_remember ∈ lw_all := tt20_all _ (List.mem_of_getElem? (i := 12) rfl)
theorem qw618 : Cond.instanceMethod yX3_remember ∈ lw_all := tt20_all _ (List.mem_of_getElem? (i := 13) rfl)
theorem qw619 : Cond.selects RX3 yX3_remember yX3_remember ∈ lw_all := tt20_all _ (List.mem_of_getElem? (i := 14) rfl)
theorem qw620 : Cond.code yX3_remember cX3_remember 2 (Option.none : Option Jvm.ClassFile.FieldType) ∈ lw_all := tt20_all _ (List.mem_of_getElem? (i := 15) rfl)
theorem qw622 : Cond.methodLink RX3 29 yX8_copyFrom ∈ lw_all := tt20_all _ (List.mem_of_getElem? (i := 16) rfl)
theorem qw623 : Cond.instanceMethod yX8_copyFrom ∈ lw_all := tt20_all _ (List.mem_of_getElem? (i := 17) rfl)
theorem qw624 : Cond.selects RX8 yX8_copyFrom yX8_copyFrom ∈ lw_all := tt20_all _ (List.mem_of_getElem? (i := 18) rfl)
theorem qw625 : Cond.code yX8_copyFrom cX8_copyFrom 2 (Option.none : Option Jvm.ClassFile.FieldType) ∈ lw_all := tt20_all _ (List.mem_of_getElem? (i := 19) rfl)
theorem qw626 : Cond.methodLink RX8 75 yX2_copyFrom ∈ lw_all := tt20_all _ (List.mem_of_getElem? (i := 20) rfl)
theorem qw627 : Cond.instanceMethod yX2_copyFrom ∈ lw_all := tt20_all _ (List.mem_of_getElem? (i := 21) rfl)
theorem qw628 : Cond.selects RX2 yX2_copyFrom yX2_copyFrom ∈ lw_all := tt20_all _ (List.mem_of_getElem? (i := 22) rfl)
theorem qw629 : Cond.code yX2_copyFrom cX2_copyFrom 2 (Option.none : Option Jvm.ClassFile.FieldType) ∈ lw_all := tt20_all _ (List.mem_of_getElem? (i := 23) rfl)
theorem qw631 : Cond.methodLink RX8 79 yX9_copyFrom ∈ lw_all := tt20_all _ (List.mem_of_getElem? (i := 24) rfl)
theorem qw632 : Cond.instanceMethod yX9_copyFrom ∈ lw_all := tt21_all _ (List.mem_of_getElem? (i := 0) rfl)
theorem qw633 : Cond.selects RX9 yX9_copyFrom yX9_copyFrom ∈ lw_all := tt21_all _ (List.mem_of_getElem? (i := 1) rfl)
theorem qw634 : Cond.code yX9_copyFrom cX9_copyFrom 2 (Option.none : Option Jvm.ClassFile.FieldType) ∈ lw_all := tt21_all _ (List.mem_of_getElem? (i := 2) rfl)
theorem qw636 : Cond.methodLink RX8 82 yX5_copyFrom ∈ lw_all := tt21_all _ (List.mem_of_getElem? (i := 3) rfl)
theorem qw637 : Cond.instanceMethod yX5_copyFrom ∈ lw_all := tt21_all _ (List.mem_of_getElem? (i := 4) rfl)
theorem qw638 : Cond.selects RX5 yX5_copyFrom yX5_copyFrom ∈ lw_all := tt21_all _ (List.mem_of_getElem? (i := 5) rfl)
theorem qw639 : Cond.code yX5_copyFrom cX5_copyFrom 2 (Option.none : Option Jvm.ClassFile.FieldType) ∈ lw_all := tt21_all _ (List.mem_of_getElem? (i := 6) rfl)
theorem qw641 : Cond.methodLink RX3 33 yJ9_min_7cf53 ∈ lw_all := tt21_all _ (List.mem_of_getElem? (i := 7) rfl)
theorem qw642 : Cond.methodLink RX11 121 yX10_setOut ∈ lw_all := tt21_all _ (List.mem_of_getElem? (i := 8) rfl)
theorem qw643 : Cond.instanceMethod yX10_setOut ∈ lw_all := tt21_all _ (List.mem_of_getElem? (i := 9) rfl)
theorem qw644 : Cond.selects RX10 yX10_setOut yX10_setOut ∈ lw_all := tt21_all _ (List.mem_of_getElem? (i := 10) rfl)
theorem qw645 : Cond.code yX10_setOut cX10_setOut 5 (Option.some Jvm.ClassFile.FieldType.int) ∈ lw_all := tt21_all _ (List.mem_of_getElem? (i := 11) rfl)
theorem qw646 : Cond.methodLink RX10 50 yX2_leave ∈ lw_all := tt21_all _ (List.mem_of_getElem? (i := 12) rfl)
theorem qw647 : Cond.instanceMethod yX2_leave ∈ lw_all := tt21_all _ (List.mem_of_getElem? (i := 13) rfl)
theorem qw648 : Cond.selects RX2 yX2_leave yX2_leave ∈ lw_all := tt21_all _ (List.mem_of_getElem? (i := 14) rfl)
theorem qw649 : Cond.code yX2_leave cX2_leave 4 (Option.some Jvm.ClassFile.FieldType.int) ∈ lw_all := tt21_all _ (List.mem_of_getElem? (i := 15) rfl)
theorem qw651 : Cond.methodLink RX2 62 yX2_sailedOf ∈ lw_all := tt21_all _ (List.mem_of_getElem? (i := 16) rfl)
theorem qw652 : Cond.instanceMethod yX2_sailedOf ∈ lw_all := tt21_all _ (List.mem_of_getElem? (i := 17) rfl)
theorem qw653 : Cond.selects RX2 yX2_sailedOf yX2_sailedOf ∈ lw_all := tt21_all _ (List.mem_of_getElem? (i := 18) rfl)
theorem qw654 : Cond.code yX2_sailedOf cX2_sailedOf 2 (Option.some Jvm.ClassFile.FieldType.int) ∈ lw_all := tt21_all _ (List.mem_of_getElem? (i := 19) rfl)
theorem qw655 : Cond.methodLink RX2 65 yX2_boatOf ∈ lw_all := tt21_all _ (List.mem_of_getElem? (i := 20) rfl)
theorem qw656 : Cond.instanceMethod yX2_boatOf ∈ lw_all := tt21_all _ (List.mem_of_getElem? (i := 21) rfl)
theorem qw657 : Cond.selects RX2 yX2_boatOf yX2_boatOf ∈ lw_all := tt21_all _ (List.mem_of_getElem? (i := 22) rfl)
theorem qw658 : Cond.code yX2_boatOf cX2_boatOf 2 (Option.some Jvm.ClassFile.FieldType.int) ∈ lw_all := tt21_all _ (List.mem_of_getElem? (i := 23) rfl)
theorem qw659 : Cond.methodLink RX2 67 yX2_aboard ∈ lw_all := tt21_all _ (List.mem_of_getElem? (i := 24) rfl)
theorem qw660 : Cond.instanceMethod yX2_aboard ∈ lw_all := tt22_all _ (List.mem_of_getElem? (i := 0) rfl)
theorem qw661 : Cond.selects RX2 yX2_aboard yX2_aboard ∈ lw_all := tt22_all _ (List.mem_of_getElem? (i := 1) rfl)
theorem qw662 : Cond.code yX2_aboard cX2_aboard 4 (Option.some Jvm.ClassFile.FieldType.int) ∈ lw_all := tt22_all _ (List.mem_of_getElem? (i := 2) rfl)
theorem qw663 : Cond.methodLink RX2 70 yX2_isAtSea ∈ lw_all := tt22_all _ (List.mem_of_getElem? (i := 3) rfl)
theorem qw664 : Cond.instanceMethod yX2_isAtSea ∈ lw_all := tt22_all _ (List.mem_of_getElem? (i := 4) rfl)
theorem qw665 : Cond.selects RX2 yX2_isAtSea yX2_isAtSea ∈ lw_all := tt22_all _ (List.mem_of_getElem? (i := 5) rfl)
theorem qw666 : Cond.code yX2_isAtSea cX2_isAtSea 2 (Option.some Jvm.ClassFile.FieldType.boolean) ∈ lw_all := tt22_all _ (List.mem_of_getElem? (i := 6) rfl)
theorem qw667 : Cond.methodLink RX10 60 yX5_add ∈ lw_all := tt22_all _ (List.mem_of_getElem? (i := 7) rfl)
theorem qw668 : Cond.instanceMethod yX5_add ∈ lw_all := tt22_all _ (List.mem_of_getElem? (i := 8) rfl)
theorem qw669 : Cond.selects RX5 yX5_add yX5_add ∈ lw_all := tt22_all _ (List.mem_of_getElem? (i := 9) rfl)
theorem qw670 : Cond.code yX5_add cX5_add 6 (Option.none : Option Jvm.ClassFile.FieldType) ∈ lw_all := tt22_all _ (List.mem_of_getElem? (i := 10) rfl)
theorem qw671 : Cond.methodLink RX5 35 yX5_placeOf ∈ lw_all := tt22_all _ (List.mem_of_getElem? (i := 11) rfl)
theorem qw673 : Cond.instanceMethod yX5_placeOf ∈ lw_all := tt22_all _ (List.mem_of_getElem? (i := 12) rfl)
theorem qw674 : Cond.code yX5_placeOf cX5_placeOf 2 (Option.some Jvm.ClassFile.FieldType.int) ∈ lw_all := tt22_all _ (List.mem_of_getElem? (i := 13) rfl)
theorem qw675 : Cond.methodLink RX5 59 yJ9_floorMod_7cf53 ∈ lw_all := tt22_all _ (List.mem_of_getElem? (i := 14) rfl)
theorem qw676 : Cond.static yJ9_floorMod_7cf53 ∈ lw_all := tt22_all _ (List.mem_of_getElem? (i := 15) rfl)
theorem qw677 : Cond.code yJ9_floorMod_7cf53 cJ9_floorMod_7cf53 3 (Option.some Jvm.ClassFile.FieldType.int) ∈ lw_all := tt22_all _ (List.mem_of_getElem? (i := 16) rfl)
theorem qw679 : Cond.methodLink RL 37 yX11_delay ∈ lw_all := tt22_all _ (List.mem_of_getElem? (i := 17) rfl)
theorem qw680 : Cond.instanceMethod yX11_delay ∈ lw_all := tt22_all _ (List.mem_of_getElem? (i := 18) rfl)
theorem qw681 : Cond.selects RX11 yX11_delay yX11_delay ∈ lw_all := tt22_all _ (List.mem_of_getElem? (i := 19) rfl)
theorem qw682 : Cond.code yX11_delay cX11_delay 3 (Option.some Jvm.ClassFile.FieldType.int) ∈ lw_all := tt22_all _ (List.mem_of_getElem? (i := 20) rfl)
theorem qw683 : Cond.methodLink RX11 125 yX2_moveBack ∈ lw_all := tt22_all _ (List.mem_of_getElem? (i := 21) rfl)
theorem qw684 : Cond.instanceMethod yX2_moveBack ∈ lw_all := tt22_all _ (List.mem_of_getElem? (i := 22) rfl)
theorem qw685 : Cond.selects RX2 yX2_moveBack yX2_moveBack ∈ lw_all := tt22_all _ (List.mem_of_getElem? (i := 23) rfl)
theorem qw686 : Cond.code yX2_moveBack cX2_moveBack 3 (Option.none : Option Jvm.ClassFile.FieldType) ∈ lw_all := tt22_all _ (List.mem_of_getElem? (i := 24) rfl)
theorem qw687 : Cond.methodLink RX2 59 yX2_backOf ∈ lw_all := tt23_all _ (List.mem_of_getElem? (i := 0) rfl)
theorem qw688 : Cond.instanceMethod yX2_backOf ∈ lw_all := tt23_all _ (List.mem_of_getElem? (i := 1) rfl)
theorem qw689 : Cond.selects RX2 yX2_backOf yX2_backOf ∈ lw_all := tt23_all _ (List.mem_of_getElem? (i := 2) rfl)
theorem qw690 : Cond.code yX2_backOf cX2_backOf 2 (Option.some Jvm.ClassFile.FieldType.int) ∈ lw_all := tt23_all _ (List.mem_of_getElem? (i := 3) rfl)
theorem qw691 : Cond.methodLink RX11 129 yX2_backOf ∈ lw_all := tt23_all _ (List.mem_of_getElem? (i := 4) rfl)
theorem qw692 : Cond.methodLink RL 41 yX11_comeHome ∈ lw_all := tt23_all _ (List.mem_of_getElem? (i := 5) rfl)
theorem qw693 : Cond.instanceMethod yX11_comeHome ∈ lw_all := tt23_all _ (List.mem_of_getElem? (i := 6) rfl)
theorem qw694 : Cond.selects RX11 yX11_comeHome yX11_comeHome ∈ lw_all := tt23_all _ (List.mem_of_getElem? (i := 7) rfl)
theorem qw695 : Cond.code yX11_comeHome cX11_comeHome 2 (Option.some Jvm.ClassFile.FieldType.int) ∈ lw_all := tt23_all _ (List.mem_of_getElem? (i := 8) rfl)
theorem qw696 : Cond.methodLink RX11 133 yX10_bringHome ∈ lw_all := tt23_all _ (List.mem_of_getElem? (i := 9) rfl)
theorem qw697 : Cond.instanceMethod yX10_bringHome ∈ lw_all := tt23_all _ (List.mem_of_getElem? (i := 10) rfl)
theorem qw698 : Cond.selects RX10 yX10_bringHome yX10_bringHome ∈ lw_all := tt23_all _ (List.mem_of_getElem? (i := 11) rfl)
theorem qw699 : Cond.code yX10_bringHome cX10_bringHome 3 (Option.some Jvm.ClassFile.FieldType.int) ∈ lw_all := tt23_all _ (List.mem_of_getElem? (i := 12) rfl)
theorem qw700 : Cond.methodLink RX10 66 yX2_arrive ∈ lw_all := tt23_all _ (List.mem_of_getElem? (i := 13) rfl)
theorem qw701 : Cond.instanceMethod yX2_arrive ∈ lw_all := tt23_all _ (List.mem_of_getElem? (i := 14) rfl)
theorem qw702 : Cond.selects RX2 yX2_arrive yX2_arrive ∈ lw_all := tt23_all _ (List.mem_of_getElem? (i := 15) rfl)
theorem qw703 : Cond.code yX2_arrive cX2_arrive 4 (Option.some Jvm.ClassFile.FieldType.int) ∈ lw_all := tt23_all _ (List.mem_of_getElem? (i := 16) rfl)
theorem qw704 : Cond.methodLink RL 45 yX11_join ∈ lw_all := tt23_all _ (List.mem_of_getElem? (i := 17) rfl)
theorem qw705 : Cond.instanceMethod yX11_join ∈ lw_all := tt23_all _ (List.mem_of_getElem? (i := 18) rfl)
theorem qw706 : Cond.selects RX11 yX11_join yX11_join ∈ lw_all := tt23_all _ (List.mem_of_getElem? (i := 19) rfl)
theorem qw707 : Cond.code yX11_join cX11_join 4 (Option.some Jvm.ClassFile.FieldType.int) ∈ lw_all := tt23_all _ (List.mem_of_getElem? (i := 20) rfl)
theorem qw708 : Cond.methodLink RX11 136 yX11_isPerson ∈ lw_all := tt23_all _ (List.mem_of_getElem? (i := 21) rfl)
theorem qw710 : Cond.instanceMethod yX11_isPerson ∈ lw_all := tt23_all _ (List.mem_of_getElem? (i := 22) rfl)
theorem qw711 : Cond.code yX11_isPerson cX11_isPerson 2 (Option.some Jvm.ClassFile.FieldType.boolean) ∈ lw_all := tt23_all _ (List.mem_of_getElem? (i := 23) rfl)
theorem qw712 : Cond.methodLink RX11 139 yX2_isAtSea ∈ lw_all := tt23_all _ (List.mem_of_getElem? (i := 24) rfl)
theorem qw713 : Cond.methodLink RX11 142 yX2_boatOf ∈ lw_all := tt24_all _ (List.mem_of_getElem? (i := 0) rfl)
theorem qw714 : Cond.methodLink RX11 145 yX2_assign ∈ lw_all := tt24_all _ (List.mem_of_getElem? (i := 1) rfl)
theorem qw715 : Cond.instanceMethod yX2_assign ∈ lw_all := tt24_all _ (List.mem_of_getElem? (i := 2) rfl)
theorem qw716 : Cond.selects RX2 yX2_assign yX2_assign ∈ lw_all := tt24_all _ (List.mem_of_getElem? (i := 3) rfl)
theorem qw717 : Cond.code yX2_assign cX2_assign 3 (Option.none : Option Jvm.ClassFile.FieldType) ∈ lw_all := tt24_all _ (List.mem_of_getElem? (i := 4) rfl)
theorem qw718 : Cond.methodLink RL 49 yX11_open ∈ lw_all := tt24_all _ (List.mem_of_getElem? (i := 5) rfl)
theorem qw719 : Cond.instanceMethod yX11_open ∈ lw_all := tt24_all _ (List.mem_of_getElem? (i := 6) rfl)
theorem qw720 : Cond.selects RX11 yX11_open yX11_open ∈ lw_all := tt25_all _ (List.mem_of_getElem? (i := 0) rfl)
theorem qw721 : Cond.code yX11_open cX11_open 2 (Option.some Jvm.ClassFile.FieldType.int) ∈ lw_all := tt25_all _ (List.mem_of_getElem? (i := 1) rfl)
theorem qw722 : Cond.methodLink RX11 148 yX10_isVoteOpen ∈ lw_all := tt25_all _ (List.mem_of_getElem? (i := 2) rfl)
theorem qw723 : Cond.instanceMethod yX10_isVoteOpen ∈ lw_all := tt25_all _ (List.mem_of_getElem? (i := 3) rfl)
theorem qw724 : Cond.selects RX10 yX10_isVoteOpen yX10_isVoteOpen ∈ lw_all := tt25_all _ (List.mem_of_getElem? (i := 4) rfl)
theorem qw725 : Cond.code yX10_isVoteOpen cX10_isVoteOpen 1 (Option.some Jvm.ClassFile.FieldType.boolean) ∈ lw_all := tt25_all _ (List.mem_of_getElem? (i := 5) rfl)
theorem qw726 : Cond.methodLink RX11 152 yX10_beginVote ∈ lw_all := tt25_all _ (List.mem_of_getElem? (i := 6) rfl)
theorem qw727 : Cond.instanceMethod yX10_beginVote ∈ lw_all := tt25_all _ (List.mem_of_getElem? (i := 7) rfl)
theorem qw728 : Cond.selects RX10 yX10_beginVote yX10_beginVote ∈ lw_all := tt25_all _ (List.mem_of_getElem? (i := 8) rfl)
theorem qw729 : Cond.code yX10_beginVote cX10_beginVote 2 (Option.some Jvm.ClassFile.FieldType.int) ∈ lw_all := tt25_all _ (List.mem_of_getElem? (i := 9) rfl)
theorem qw730 : Cond.methodLink RX10 91 yX9_takeOut ∈ lw_all := tt25_all _ (List.mem_of_getElem? (i := 10) rfl)
theorem qw731 : Cond.instanceMethod yX9_takeOut ∈ lw_all := tt25_all _ (List.mem_of_getElem? (i := 11) rfl)
theorem qw732 : Cond.selects RX9 yX9_takeOut yX9_takeOut ∈ lw_all := tt25_all _ (List.mem_of_getElem? (i := 12) rfl)
theorem qw733 : Cond.code yX9_takeOut cX9_takeOut 2 (Option.none : Option Jvm.ClassFile.FieldType) ∈ lw_all := tt25_all _ (List.mem_of_getElem? (i := 13) rfl)
theorem qw734 : Cond.methodLink RX9 46 yX9_carrierOf ∈ lw_all := tt25_all _ (List.mem_of_getElem? (i := 14) rfl)
theorem qw735 : Cond.instanceMethod yX9_carrierOf ∈ lw_all := tt25_all _ (List.mem_of_getElem? (i := 15) rfl)
theorem qw736 : Cond.selects RX9 yX9_carrierOf yX9_carrierOf ∈ lw_all := tt25_all _ (List.mem_of_getElem? (i := 16) rfl)
theorem qw737 : Cond.code yX9_carrierOf cX9_carrierOf 2 (Option.some Jvm.ClassFile.FieldType.int) ∈ lw_all := tt25_all _ (List.mem_of_getElem? (i := 17) rfl)
theorem qw740 : Cond.methodLink RX10 96 yX8_beginVote ∈ lw_all := tt25_all _ (List.mem_of_getElem? (i := 18) rfl)
theorem qw741 : Cond.methodLink RX10 103 yX10_latestVote ∈ lw_all := tt25_all _ (List.mem_of_getElem? (i := 19) rfl)
theorem qw743 : Cond.instanceMethod yX10_latestVote ∈ lw_all := tt25_all _ (List.mem_of_getElem? (i := 20) rfl)
theorem qw744 : Cond.code yX10_latestVote cX10_latestVote 1 (Option.some Jvm.ClassFile.FieldType.int) ∈ lw_all := tt25_all _ (List.mem_of_getElem? (i := 21) rfl)
theorem qw745 : Cond.methodLink RL 53 yX11_give ∈ lw_all := tt25_all _ (List.mem_of_getElem? (i := 22) rfl)
theorem qw746 : Cond.instanceMethod yX11_give ∈ lw_all := tt25_all _ (List.mem_of_getElem? (i := 23) rfl)
theorem qw747 : Cond.selects RX11 yX11_give yX11_give ∈ lw_all := tt25_all _ (List.mem_of_getElem? (i := 24) rfl)
theorem qw748 : Cond.code yX11_give cX11_give 4 (Option.some Jvm.ClassFile.FieldType.int) ∈ lw_all := tt26_all _ (List.mem_of_getElem? (i := 0) rfl)
theorem qw749 : Cond.methodLink RX11 155 yX11_isBasket ∈ lw_all := tt26_all _ (List.mem_of_getElem? (i := 1) rfl)
theorem qw750 : Cond.static yX11_isBasket ∈ lw_all := tt26_all _ (List.mem_of_getElem? (i := 2) rfl)
theorem qw751 : Cond.code yX11_isBasket cX11_isBasket 1 (Option.some Jvm.ClassFile.FieldType.boolean) ∈ lw_all := tt26_all _ (List.mem_of_getElem? (i := 3) rfl)
theorem qw752 : Cond.methodLink RX11 162 yX9_placeOf ∈ lw_all := tt26_all _ (List.mem_of_getElem? (i := 4) rfl)
theorem qw753 : Cond.instanceMethod yX9_placeOf ∈ lw_all := tt26_all _ (List.mem_of_getElem? (i := 5) rfl)
theorem qw754 : Cond.selects RX9 yX9_placeOf yX9_placeOf ∈ lw_all := tt26_all _ (List.mem_of_getElem? (i := 6) rfl)
theorem qw755 : Cond.code yX9_placeOf cX9_placeOf 2 (Option.some Jvm.ClassFile.FieldType.int) ∈ lw_all := tt26_all _ (List.mem_of_getElem? (i := 7) rfl)
theorem qw756 : Cond.methodLink RX11 167 yX9_handTo ∈ lw_all := tt26_all _ (List.mem_of_getElem? (i := 8) rfl)
theorem qw757 : Cond.instanceMethod yX9_handTo ∈ lw_all := tt26_all _ (List.mem_of_getElem? (i := 9) rfl)
theorem qw758 : Cond.selects RX9 yX9_handTo yX9_handTo ∈ lw_all := tt26_all _ (List.mem_of_getElem? (i := 10) rfl)
theorem qw759 : Cond.code yX9_handTo cX9_handTo 4 (Option.none : Option Jvm.ClassFile.FieldType) ∈ lw_all := tt26_all _ (List.mem_of_getElem? (i := 11) rfl)
theorem qw760 : Cond.methodLink RX11 171 yX9_carriedBy ∈ lw_all := tt26_all _ (List.mem_of_getElem? (i := 12) rfl)
theorem qw761 : Cond.instanceMethod yX9_carriedBy ∈ lw_all := tt26_all _ (List.mem_of_getElem? (i := 13) rfl)
theorem qw762 : Cond.selects RX9 yX9_carriedBy yX9_carriedBy ∈ lw_all := tt26_all _ (List.mem_of_getElem? (i := 14) rfl)
theorem qw763 : Cond.code yX9_carriedBy cX9_carriedBy 4 (Option.some Jvm.ClassFile.FieldType.int) ∈ lw_all := tt26_all _ (List.mem_of_getElem? (i := 15) rfl)
theorem qw764 : Cond.methodLink RX9 42 yX9_placeOf ∈ lw_all := tt26_all _ (List.mem_of_getElem? (i := 16) rfl)
theorem qw765 : Cond.methodLink RX11 174 yJ6_bitCount_0f7a4 ∈ lw_all := tt26_all _ (List.mem_of_getElem? (i := 17) rfl)
theorem qw766 : Cond.static yJ6_bitCount_0f7a4 ∈ lw_all := tt26_all _ (List.mem_of_getElem? (i := 18) rfl)
theorem qw767 : Cond.code yJ6_bitCount_0f7a4 cJ6_bitCount_0f7a4 1 (Option.some Jvm.ClassFile.FieldType.int) ∈ lw_all := tt26_all _ (List.mem_of_getElem? (i := 19) rfl)
theorem qw768 : Cond.constant RJ6 265 (1431655765 : Int32) ∈ lw_all := tt26_all _ (List.mem_of_getElem? (i := 20) rfl)
theorem qw769 : Cond.constant RJ6 266 (858993459 : Int32) ∈ lw_all := tt26_all _ (List.mem_of_getElem? (i := 21) rfl)
theorem qw770 : Cond.constant RJ6 267 (252645135 : Int32) ∈ lw_all := tt26_all _ (List.mem_of_getElem? (i := 22) rfl)
theorem qw771 : Cond.methodLink RL 58 yX11_takeBack ∈ lw_all := tt26_all _ (List.mem_of_getElem? (i := 23) rfl)
theorem qw772 : Cond.instanceMethod yX11_takeBack ∈ lw_all := tt26_all _ (List.mem_of_getElem? (i := 24) rfl)
theorem qw773 : Cond.selects RX11 yX11_takeBack yX11_takeBack ∈ lw_all := tt27_all _ (List.mem_of_getElem? (i := 0) rfl)
theorem qw774 : Cond.code yX11_takeBack cX11_takeBack 4 (Option.some Jvm.ClassFile.FieldType.int) ∈ lw_all := tt27_all _ (List.mem_of_getElem? (i := 1) rfl)
theorem qw775 : Cond.methodLink RX11 179 yX9_carrierOf ∈ lw_all := tt27_all _ (List.mem_of_getElem? (i := 2) rfl)
theorem qw776 : Cond.methodLink RX11 182 yX9_handBack ∈ lw_all := tt27_all _ (List.mem_of_getElem? (i := 3) rfl)
theorem qw777 : Cond.instanceMethod yX9_handBack ∈ lw_all := tt27_all _ (List.mem_of_getElem? (i := 4) rfl)
theorem qw778 : Cond.selects RX9 yX9_handBack yX9_handBack ∈ lw_all := tt27_all _ (List.mem_of_getElem? (i := 5) rfl)
theorem qw779 : Cond.code yX9_handBack cX9_handBack 2 (Option.none : Option Jvm.ClassFile.FieldType) ∈ lw_all := tt27_all _ (List.mem_of_getElem? (i := 6) rfl)
theorem qw780 : Cond.methodLink RL 62 yX11_lay ∈ lw_all := tt27_all _ (List.mem_of_getElem? (i := 7) rfl)
theorem qw781 : Cond.instanceMethod yX11_lay ∈ lw_all := tt27_all _ (List.mem_of_getElem? (i := 8) rfl)
theorem qw782 : Cond.selects RX11 yX11_lay yX11_lay ∈ lw_all := tt27_all _ (List.mem_of_getElem? (i := 9) rfl)
theorem qw783 : Cond.code yX11_lay cX11_lay 5 (Option.some Jvm.ClassFile.FieldType.int) ∈ lw_all := tt27_all _ (List.mem_of_getElem? (i := 10) rfl)
theorem qw784 : Cond.methodLink RX11 185 yX11_refusalToLay ∈ lw_all := tt27_all _ (List.mem_of_getElem? (i := 11) rfl)
theorem qw786 : Cond.instanceMethod yX11_refusalToLay ∈ lw_all := tt27_all _ (List.mem_of_getElem? (i := 12) rfl)
theorem qw787 : Cond.code yX11_refusalToLay cX11_refusalToLay 4 (Option.some Jvm.ClassFile.FieldType.int) ∈ lw_all := tt27_all _ (List.mem_of_getElem? (i := 13) rfl)
theorem qw788 : Cond.methodLink RX11 384 yX9_isHadBy ∈ lw_all := tt27_all _ (List.mem_of_getElem? (i := 14) rfl)
theorem qw789 : Cond.instanceMethod yX9_isHadBy ∈ lw_all := tt27_all _ (List.mem_of_getElem? (i := 15) rfl)
theorem qw790 : Cond.selects RX9 yX9_isHadBy yX9_isHadBy ∈ lw_all := tt27_all _ (List.mem_of_getElem? (i := 16) rfl)
theorem qw791 : Cond.code yX9_isHadBy cX9_isHadBy 3 (Option.some Jvm.ClassFile.FieldType.boolean) ∈ lw_all := tt27_all _ (List.mem_of_getElem? (i := 17) rfl)
theorem qw792 : Cond.methodLink RX11 189 yX10_putIntoBasket ∈ lw_all := tt27_all _ (List.mem_of_getElem? (i := 18) rfl)
theorem qw793 : Cond.instanceMethod yX10_putIntoBasket ∈ lw_all := tt27_all _ (List.mem_of_getElem? (i := 19) rfl)
theorem qw794 : Cond.selects RX10 yX10_putIntoBasket yX10_putIntoBasket ∈ lw_all := tt27_all _ (List.mem_of_getElem? (i := 20) rfl)
theorem qw795 : Cond.code yX10_putIntoBasket cX10_putIntoBasket 4 (Option.some Jvm.ClassFile.FieldType.int) ∈ lw_all := tt27_all _ (List.mem_of_getElem? (i := 21) rfl)
theorem qw796 : Cond.methodLink RX10 106 yX10_reasonFor ∈ lw_all := tt27_all _ (List.mem_of_getElem? (i := 22) rfl)
theorem qw797 : Cond.instanceMethod yX10_reasonFor ∈ lw_all := tt27_all _ (List.mem_of_getElem? (i := 23) rfl)
theorem qw798 : Cond.selects RX10 yX10_reasonFor yX10_reasonFor ∈ lw_all := tt27_all _ (List.mem_of_getElem? (i := 24) rfl)
theorem qw799 : Cond.code yX10_reasonFor cX10_reasonFor 5 (Option.some Jvm.ClassFile.FieldType.int) ∈ lw_all := tt28_all _ (List.mem_of_getElem? (i := 0) rfl)
theorem qw800 : Cond.methodLink RX10 181 yX2_isAtSea ∈ lw_all := tt28_all _ (List.mem_of_getElem? (i := 1) rfl)
theorem qw801 : Cond.methodLink RX10 214 yX9_laidForOthers ∈ lw_all := tt28_all _ (List.mem_of_getElem? (i := 2) rfl)
theorem qw802 : Cond.instanceMethod yX9_laidForOthers ∈ lw_all := tt28_all _ (List.mem_of_getElem? (i := 3) rfl)
theorem qw803 : Cond.selects RX9 yX9_laidForOthers yX9_laidForOthers ∈ lw_all := tt28_all _ (List.mem_of_getElem? (i := 4) rfl)
theorem qw804 : Cond.code yX9_laidForOthers cX9_laidForOthers 5 (Option.some Jvm.ClassFile.FieldType.int) ∈ lw_all := tt28_all _ (List.mem_of_getElem? (i := 5) rfl)
theorem qw805 : Cond.methodLink RX10 173 yX7_numberOf ∈ lw_all := tt28_all _ (List.mem_of_getElem? (i := 6) rfl)
theorem qw806 : Cond.instanceMethod yX7_numberOf ∈ lw_all := tt28_all _ (List.mem_of_getElem? (i := 7) rfl)
theorem qw807 : Cond.selects RX7 yX7_numberOf yX7_numberOf ∈ lw_all := tt28_all _ (List.mem_of_getElem? (i := 8) rfl)
theorem qw808 : Cond.code yX7_numberOf cX7_numberOf 2 (Option.some Jvm.ClassFile.FieldType.int) ∈ lw_all := tt28_all _ (List.mem_of_getElem? (i := 9) rfl)
theorem qw809 : Cond.methodLink RX10 217 yX9_boundTo ∈ lw_all := tt28_all _ (List.mem_of_getElem? (i := 10) rfl)
theorem qw810 : Cond.instanceMethod yX9_boundTo ∈ lw_all := tt28_all _ (List.mem_of_getElem? (i := 11) rfl)
theorem qw811 : Cond.selects RX9 yX9_boundTo yX9_boundTo ∈ lw_all := tt28_all _ (List.mem_of_getElem? (i := 12) rfl)
theorem qw812 : Cond.code yX9_boundTo cX9_boundTo 2 (Option.some Jvm.ClassFile.FieldType.int) ∈ lw_all := tt28_all _ (List.mem_of_getElem? (i := 13) rfl)
theorem qw813 : Cond.methodLink RX10 110 yX9_putInto ∈ lw_all := tt28_all _ (List.mem_of_getElem? (i := 14) rfl)
theorem qw814 : Cond.instanceMethod yX9_putInto ∈ lw_all := tt28_all _ (List.mem_of_getElem? (i := 15) rfl)
theorem qw815 : Cond.selects RX9 yX9_putInto yX9_putInto ∈ lw_all := tt28_all _ (List.mem_of_getElem? (i := 16) rfl)
theorem qw816 : Cond.code yX9_putInto cX9_putInto 5 (Option.none : Option Jvm.ClassFile.FieldType) ∈ lw_all := tt28_all _ (List.mem_of_getElem? (i := 17) rfl)
theorem qw817 : Cond.methodLink RX10 116 yX9_countIn ∈ lw_all := tt28_all _ (List.mem_of_getElem? (i := 18) rfl)
theorem qw818 : Cond.instanceMethod yX9_countIn ∈ lw_all := tt28_all _ (List.mem_of_getElem? (i := 19) rfl)
theorem qw819 : Cond.selects RX9 yX9_countIn yX9_countIn ∈ lw_all := tt28_all _ (List.mem_of_getElem? (i := 20) rfl)
theorem qw820 : Cond.code yX9_countIn cX9_countIn 2 (Option.some Jvm.ClassFile.FieldType.int) ∈ lw_all := tt28_all _ (List.mem_of_getElem? (i := 21) rfl)
theorem qw821 : Cond.methodLink RX9 56 yX9_maskIn ∈ lw_all := tt28_all _ (List.mem_of_getElem? (i := 22) rfl)
theorem qw822 : Cond.instanceMethod yX9_maskIn ∈ lw_all := tt28_all _ (List.mem_of_getElem? (i := 23) rfl)
theorem qw823 : Cond.selects RX9 yX9_maskIn yX9_maskIn ∈ lw_all := tt28_all _ (List.mem_of_getElem? (i := 24) rfl)
theorem qw824 : Cond.code yX9_maskIn cX9_maskIn 4 (Option.some Jvm.ClassFile.FieldType.int) ∈ lw_all := tt29_all _ (List.mem_of_getElem? (i := 0) rfl)
theorem qw825 : Cond.methodLink RX9 67 yX9_basketOf ∈ lw_all := tt29_all _ (List.mem_of_getElem? (i := 1) rfl)
theorem qw826 : Cond.instanceMethod yX9_basketOf ∈ lw_all := tt29_all _ (List.mem_of_getElem? (i := 2) rfl)
theorem qw827 : Cond.selects RX9 yX9_basketOf yX9_basketOf ∈ lw_all := tt29_all _ (List.mem_of_getElem? (i := 3) rfl)
theorem qw828 : Cond.code yX9_basketOf cX9_basketOf 2 (Option.some Jvm.ClassFile.FieldType.int) ∈ lw_all := tt29_all _ (List.mem_of_getElem? (i := 4) rfl)
theorem qw829 : Cond.methodLink RX9 59 yJ6_bitCount_0f7a4 ∈ lw_all := tt29_all _ (List.mem_of_getElem? (i := 5) rfl)
theorem qw830 : Cond.methodLink RL 66 yX11_contest ∈ lw_all := tt29_all _ (List.mem_of_getElem? (i := 6) rfl)
theorem qw831 : Cond.instanceMethod yX11_contest ∈ lw_all := tt29_all _ (List.mem_of_getElem? (i := 7) rfl)
theorem qw832 : Cond.selects RX11 yX11_contest yX11_contest ∈ lw_all := tt29_all _ (List.mem_of_getElem? (i := 8) rfl)
theorem qw833 : Cond.code yX11_contest cX11_contest 3 (Option.some Jvm.ClassFile.FieldType.int) ∈ lw_all := tt29_all _ (List.mem_of_getElem? (i := 9) rfl)
theorem qw834 : Cond.methodLink RX11 192 yX2_faultsOf ∈ lw_all := tt29_all _ (List.mem_of_getElem? (i := 10) rfl)
theorem qw835 : Cond.instanceMethod yX2_faultsOf ∈ lw_all := tt29_all _ (List.mem_of_getElem? (i := 11) rfl)
theorem qw836 : Cond.selects RX2 yX2_faultsOf yX2_faultsOf ∈ lw_all := tt29_all _ (List.mem_of_getElem? (i := 12) rfl)
theorem qw837 : Cond.code yX2_faultsOf cX2_faultsOf 2 (Option.some Jvm.ClassFile.FieldType.int) ∈ lw_all := tt29_all _ (List.mem_of_getElem? (i := 13) rfl)
theorem qw838 : Cond.methodLink RX11 195 yX10_stateOfVote ∈ lw_all := tt29_all _ (List.mem_of_getElem? (i := 14) rfl)
theorem qw839 : Cond.instanceMethod yX10_stateOfVote ∈ lw_all := tt29_all _ (List.mem_of_getElem? (i := 15) rfl)
theorem qw840 : Cond.selects RX10 yX10_stateOfVote yX10_stateOfVote ∈ lw_all := tt29_all _ (List.mem_of_getElem? (i := 16) rfl)
theorem qw841 : Cond.code yX10_stateOfVote cX10_stateOfVote 1 (Option.some Jvm.ClassFile.FieldType.int) ∈ lw_all := tt29_all _ (List.mem_of_getElem? (i := 17) rfl)
theorem qw842 : Cond.methodLink RX11 198 yX10_judge ∈ lw_all := tt29_all _ (List.mem_of_getElem? (i := 18) rfl)
theorem qw843 : Cond.instanceMethod yX10_judge ∈ lw_all := tt29_all _ (List.mem_of_getElem? (i := 19) rfl)
theorem qw844 : Cond.selects RX10 yX10_judge yX10_judge ∈ lw_all := tt29_all _ (List.mem_of_getElem? (i := 20) rfl)
theorem qw845 : Cond.code yX10_judge cX10_judge 5 (Option.some Jvm.ClassFile.FieldType.int) ∈ lw_all := tt29_all _ (List.mem_of_getElem? (i := 21) rfl)
theorem qw846 : Cond.methodLink RX10 119 yX9_reasonOf ∈ lw_all := tt29_all _ (List.mem_of_getElem? (i := 22) rfl)
theorem qw847 : Cond.instanceMethod yX9_reasonOf ∈ lw_all := tt29_all _ (List.mem_of_getElem? (i := 23) rfl)
theorem qw848 : Cond.selects RX9 yX9_reasonOf yX9_reasonOf ∈ lw_all := tt29_all _ (List.mem_of_getElem? (i := 24) rfl)
theorem qw849 : Cond.code yX9_reasonOf cX9_reasonOf 2 (Option.some Jvm.ClassFile.FieldType.int) ∈ lw_all := tt30_all _ (List.mem_of_getElem? (i := 0) rfl)
theorem qw850 : Cond.methodLink RX10 122 yX2_addFault ∈ lw_all := tt30_all _ (List.mem_of_getElem? (i := 1) rfl)
theorem qw851 : Cond.instanceMethod yX2_addFault ∈ lw_all := tt30_all _ (List.mem_of_getElem? (i := 2) rfl)
theorem qw852 : Cond.selects RX2 yX2_addFault yX2_addFault ∈ lw_all := tt30_all _ (List.mem_of_getElem? (i := 3) rfl)
theorem qw853 : Cond.code yX2_addFault cX2_addFault 2 (Option.none : Option Jvm.ClassFile.FieldType) ∈ lw_all := tt30_all _ (List.mem_of_getElem? (i := 4) rfl)
theorem qw854 : Cond.methodLink RX2 56 yX2_faultsOf ∈ lw_all := tt30_all _ (List.mem_of_getElem? (i := 5) rfl)
theorem qw855 : Cond.methodLink RX10 125 yX2_faultsOf ∈ lw_all := tt30_all _ (List.mem_of_getElem? (i := 6) rfl)
theorem qw856 : Cond.methodLink RX10 128 yX10_resultNow ∈ lw_all := tt30_all _ (List.mem_of_getElem? (i := 7) rfl)
theorem qw857 : Cond.instanceMethod yX10_resultNow ∈ lw_all := tt30_all _ (List.mem_of_getElem? (i := 8) rfl)
theorem qw858 : Cond.selects RX10 yX10_resultNow yX10_resultNow ∈ lw_all := tt30_all _ (List.mem_of_getElem? (i := 9) rfl)
theorem qw859 : Cond.code yX10_resultNow cX10_resultNow 1 (Option.some Jvm.ClassFile.FieldType.int) ∈ lw_all := tt30_all _ (List.mem_of_getElem? (i := 10) rfl)
theorem qw860 : Cond.methodLink RX10 167 yX10_needOfVote ∈ lw_all := tt30_all _ (List.mem_of_getElem? (i := 11) rfl)
theorem qw861 : Cond.instanceMethod yX10_needOfVote ∈ lw_all := tt30_all _ (List.mem_of_getElem? (i := 12) rfl)
theorem qw862 : Cond.selects RX10 yX10_needOfVote yX10_needOfVote ∈ lw_all := tt30_all _ (List.mem_of_getElem? (i := 13) rfl)
theorem qw863 : Cond.code yX10_needOfVote cX10_needOfVote 1 (Option.some Jvm.ClassFile.FieldType.int) ∈ lw_all := tt30_all _ (List.mem_of_getElem? (i := 14) rfl)
theorem qw864 : Cond.methodLink RX10 202 yX2_boatsOut ∈ lw_all := tt30_all _ (List.mem_of_getElem? (i := 15) rfl)
theorem qw865 : Cond.instanceMethod yX2_boatsOut ∈ lw_all := tt30_all _ (List.mem_of_getElem? (i := 16) rfl)
theorem qw866 : Cond.selects RX2 yX2_boatsOut yX2_boatsOut ∈ lw_all := tt30_all _ (List.mem_of_getElem? (i := 17) rfl)
theorem qw867 : Cond.code yX2_boatsOut cX2_boatsOut 3 (Option.some Jvm.ClassFile.FieldType.int) ∈ lw_all := tt30_all _ (List.mem_of_getElem? (i := 18) rfl)
theorem qw868 : Cond.methodLink RX2 77 yX2_isOut ∈ lw_all := tt30_all _ (List.mem_of_getElem? (i := 19) rfl)
theorem qw869 : Cond.methodLink RX10 199 yX10_needOf ∈ lw_all := tt30_all _ (List.mem_of_getElem? (i := 20) rfl)
theorem qw870 : Cond.instanceMethod yX10_needOf ∈ lw_all := tt30_all _ (List.mem_of_getElem? (i := 21) rfl)
theorem qw871 : Cond.selects RX10 yX10_needOf yX10_needOf ∈ lw_all := tt30_all _ (List.mem_of_getElem? (i := 22) rfl)
theorem qw872 : Cond.code yX10_needOf cX10_needOf 5 (Option.some Jvm.ClassFile.FieldType.int) ∈ lw_all := tt30_all _ (List.mem_of_getElem? (i := 23) rfl)
theorem qw873 : Cond.methodLink RX10 187 yX10_seasonOn ∈ lw_all := tt30_all _ (List.mem_of_getElem? (i := 24) rfl)
theorem qw874 : Cond.instanceMethod yX10_seasonOn ∈ lw_all := tt31_all _ (List.mem_of_getElem? (i := 0) rfl)
theorem qw875 : Cond.selects RX10 yX10_seasonOn yX10_seasonOn ∈ lw_all := tt31_all _ (List.mem_of_getElem? (i := 1) rfl)
theorem qw876 : Cond.code yX10_seasonOn cX10_seasonOn 3 (Option.some Jvm.ClassFile.FieldType.int) ∈ lw_all := tt31_all _ (List.mem_of_getElem? (i := 2) rfl)
theorem qw877 : Cond.methodLink RX10 176 yJ9_floorMod_7cf53 ∈ lw_all := tt31_all _ (List.mem_of_getElem? (i := 3) rfl)
theorem qw878 : Cond.methodLink RX10 190 yX7_people ∈ lw_all := tt31_all _ (List.mem_of_getElem? (i := 4) rfl)
theorem qw879 : Cond.methodLink RX10 193 yJ9_max_7cf53 ∈ lw_all := tt31_all _ (List.mem_of_getElem? (i := 5) rfl)
theorem qw880 : Cond.methodLink RX10 151 yX10_resultFor ∈ lw_all := tt31_all _ (List.mem_of_getElem? (i := 6) rfl)
theorem qw882 : Cond.instanceMethod yX10_resultFor ∈ lw_all := tt31_all _ (List.mem_of_getElem? (i := 7) rfl)
theorem qw883 : Cond.code yX10_resultFor cX10_resultFor 2 (Option.some Jvm.ClassFile.FieldType.int) ∈ lw_all := tt31_all _ (List.mem_of_getElem? (i := 8) rfl)
theorem qw884 : Cond.methodLink RX10 220 yX0_takeFrom ∈ lw_all := tt31_all _ (List.mem_of_getElem? (i := 9) rfl)
theorem qw885 : Cond.instanceMethod yX0_takeFrom ∈ lw_all := tt31_all _ (List.mem_of_getElem? (i := 10) rfl)
theorem qw886 : Cond.selects RX0 yX0_takeFrom yX0_takeFrom ∈ lw_all := tt31_all _ (List.mem_of_getElem? (i := 11) rfl)
theorem qw887 : Cond.code yX0_takeFrom cX0_takeFrom 3 (Option.none : Option Jvm.ClassFile.FieldType) ∈ lw_all := tt31_all _ (List.mem_of_getElem? (i := 12) rfl)
theorem qw888 : Cond.methodLink RX0 18 yX9_placeOf ∈ lw_all := tt31_all _ (List.mem_of_getElem? (i := 13) rfl)
theorem qw889 : Cond.methodLink RX0 24 yX9_basketOf ∈ lw_all := tt31_all _ (List.mem_of_getElem? (i := 14) rfl)
theorem qw890 : Cond.methodLink RX10 224 yX0_result ∈ lw_all := tt31_all _ (List.mem_of_getElem? (i := 15) rfl)
theorem qw891 : Cond.instanceMethod yX0_result ∈ lw_all := tt31_all _ (List.mem_of_getElem? (i := 16) rfl)
theorem qw892 : Cond.selects RX0 yX0_result yX0_result ∈ lw_all := tt31_all _ (List.mem_of_getElem? (i := 17) rfl)
theorem qw893 : Cond.code yX0_result cX0_result 4 (Option.some Jvm.ClassFile.FieldType.int) ∈ lw_all := tt31_all _ (List.mem_of_getElem? (i := 18) rfl)
theorem qw894 : Cond.methodLink RX0 30 yX0_countAll ∈ lw_all := tt31_all _ (List.mem_of_getElem? (i := 19) rfl)
theorem qw896 : Cond.instanceMethod yX0_countAll ∈ lw_all := tt31_all _ (List.mem_of_getElem? (i := 20) rfl)
theorem qw897 : Cond.code yX0_countAll cX0_countAll 4 (Option.some Jvm.ClassFile.FieldType.int) ∈ lw_all := tt31_all _ (List.mem_of_getElem? (i := 21) rfl)
theorem qw902 : Cond.methodLink RX0 34 yJ9_max_7cf53 ∈ lw_all := tt31_all _ (List.mem_of_getElem? (i := 22) rfl)
theorem qw903 : Cond.methodLink RX10 131 yX10_strike ∈ lw_all := tt31_all _ (List.mem_of_getElem? (i := 23) rfl)
theorem qw905 : Cond.instanceMethod yX10_strike ∈ lw_all := tt31_all _ (List.mem_of_getElem? (i := 24) rfl)
theorem qw906 : Cond.code yX10_strike cX10_strike 2 (Option.none : Option Jvm.ClassFile.FieldType) ∈ lw_all := tt32_all _ (List.mem_of_getElem? (i := 0) rfl)
theorem qw907 : Cond.methodLink RX10 143 yX9_strike ∈ lw_all := tt32_all _ (List.mem_of_getElem? (i := 1) rfl)
theorem qw908 : Cond.instanceMethod yX9_strike ∈ lw_all := tt32_all _ (List.mem_of_getElem? (i := 2) rfl)
theorem qw909 : Cond.selects RX9 yX9_strike yX9_strike ∈ lw_all := tt32_all _ (List.mem_of_getElem? (i := 3) rfl)
theorem qw910 : Cond.code yX9_strike cX9_strike 2 (Option.none : Option Jvm.ClassFile.FieldType) ∈ lw_all := tt32_all _ (List.mem_of_getElem? (i := 4) rfl)
theorem qw911 : Cond.methodLink RX10 134 yX10_correctResult ∈ lw_all := tt32_all _ (List.mem_of_getElem? (i := 5) rfl)
theorem qw913 : Cond.instanceMethod yX10_correctResult ∈ lw_all := tt32_all _ (List.mem_of_getElem? (i := 6) rfl)
theorem qw914 : Cond.code yX10_correctResult cX10_correctResult 3 (Option.none : Option Jvm.ClassFile.FieldType) ∈ lw_all := tt32_all _ (List.mem_of_getElem? (i := 7) rfl)
theorem qw915 : Cond.methodLink RX10 157 yX9_turnout ∈ lw_all := tt32_all _ (List.mem_of_getElem? (i := 8) rfl)
theorem qw916 : Cond.instanceMethod yX9_turnout ∈ lw_all := tt32_all _ (List.mem_of_getElem? (i := 9) rfl)
theorem qw917 : Cond.selects RX9 yX9_turnout yX9_turnout ∈ lw_all := tt32_all _ (List.mem_of_getElem? (i := 10) rfl)
theorem qw918 : Cond.code yX9_turnout cX9_turnout 1 (Option.some Jvm.ClassFile.FieldType.int) ∈ lw_all := tt32_all _ (List.mem_of_getElem? (i := 11) rfl)
theorem qw919 : Cond.methodLink RX9 64 yX9_countAt ∈ lw_all := tt32_all _ (List.mem_of_getElem? (i := 12) rfl)
theorem qw921 : Cond.instanceMethod yX9_countAt ∈ lw_all := tt32_all _ (List.mem_of_getElem? (i := 13) rfl)
theorem qw922 : Cond.code yX9_countAt cX9_countAt 4 (Option.some Jvm.ClassFile.FieldType.int) ∈ lw_all := tt32_all _ (List.mem_of_getElem? (i := 14) rfl)
theorem qw923 : Cond.methodLink RX10 160 yX5_setPart ∈ lw_all := tt32_all _ (List.mem_of_getElem? (i := 15) rfl)
theorem qw924 : Cond.instanceMethod yX5_setPart ∈ lw_all := tt32_all _ (List.mem_of_getElem? (i := 16) rfl)
theorem qw925 : Cond.selects RX5 yX5_setPart yX5_setPart ∈ lw_all := tt32_all _ (List.mem_of_getElem? (i := 17) rfl)
theorem qw926 : Cond.code yX5_setPart cX5_setPart 4 (Option.none : Option Jvm.ClassFile.FieldType) ∈ lw_all := tt32_all _ (List.mem_of_getElem? (i := 18) rfl)
theorem qw927 : Cond.methodLink RX5 47 yX5_has ∈ lw_all := tt32_all _ (List.mem_of_getElem? (i := 19) rfl)
theorem qw928 : Cond.instanceMethod yX5_has ∈ lw_all := tt32_all _ (List.mem_of_getElem? (i := 20) rfl)
theorem qw929 : Cond.selects RX5 yX5_has yX5_has ∈ lw_all := tt32_all _ (List.mem_of_getElem? (i := 21) rfl)
theorem qw930 : Cond.code yX5_has cX5_has 2 (Option.some Jvm.ClassFile.FieldType.boolean) ∈ lw_all := tt32_all _ (List.mem_of_getElem? (i := 22) rfl)
theorem qw931 : Cond.methodLink RX5 43 yX5_oldest ∈ lw_all := tt32_all _ (List.mem_of_getElem? (i := 23) rfl)
theorem qw932 : Cond.instanceMethod yX5_oldest ∈ lw_all := tt32_all _ (List.mem_of_getElem? (i := 24) rfl)
theorem qw933 : Cond.selects RX5 yX5_oldest yX5_oldest ∈ lw_all := tt33_all _ (List.mem_of_getElem? (i := 0) rfl)
theorem qw934 : Cond.code yX5_oldest cX5_oldest 1 (Option.some Jvm.ClassFile.FieldType.int) ∈ lw_all := tt33_all _ (List.mem_of_getElem? (i := 1) rfl)
theorem qw936 : Cond.methodLink RX10 164 yX10_inLog ∈ lw_all := tt33_all _ (List.mem_of_getElem? (i := 2) rfl)
theorem qw937 : Cond.static yX10_inLog ∈ lw_all := tt33_all _ (List.mem_of_getElem? (i := 3) rfl)
theorem qw938 : Cond.code yX10_inLog cX10_inLog 1 (Option.some Jvm.ClassFile.FieldType.int) ∈ lw_all := tt33_all _ (List.mem_of_getElem? (i := 4) rfl)
theorem qw939 : Cond.methodLink RL 70 yX11_close ∈ lw_all := tt33_all _ (List.mem_of_getElem? (i := 5) rfl)
theorem qw940 : Cond.instanceMethod yX11_close ∈ lw_all := tt33_all _ (List.mem_of_getElem? (i := 6) rfl)
theorem qw941 : Cond.selects RX11 yX11_close yX11_close ∈ lw_all := tt33_all _ (List.mem_of_getElem? (i := 7) rfl)
theorem qw942 : Cond.code yX11_close cX11_close 1 (Option.some Jvm.ClassFile.FieldType.int) ∈ lw_all := tt33_all _ (List.mem_of_getElem? (i := 8) rfl)
theorem qw943 : Cond.methodLink RX11 201 yX10_endVote ∈ lw_all := tt33_all _ (List.mem_of_getElem? (i := 9) rfl)
theorem qw944 : Cond.instanceMethod yX10_endVote ∈ lw_all := tt33_all _ (List.mem_of_getElem? (i := 10) rfl)
theorem qw945 : Cond.selects RX10 yX10_endVote yX10_endVote ∈ lw_all := tt33_all _ (List.mem_of_getElem? (i := 11) rfl)
theorem qw946 : Cond.code yX10_endVote cX10_endVote 3 (Option.some Jvm.ClassFile.FieldType.int) ∈ lw_all := tt33_all _ (List.mem_of_getElem? (i := 12) rfl)
theorem qw947 : Cond.methodLink RL 74 yX11_recount ∈ lw_all := tt33_all _ (List.mem_of_getElem? (i := 13) rfl)
theorem qw948 : Cond.instanceMethod yX11_recount ∈ lw_all := tt33_all _ (List.mem_of_getElem? (i := 14) rfl)
theorem qw949 : Cond.selects RX11 yX11_recount yX11_recount ∈ lw_all := tt33_all _ (List.mem_of_getElem? (i := 15) rfl)
theorem qw950 : Cond.code yX11_recount cX11_recount 1 (Option.some Jvm.ClassFile.FieldType.int) ∈ lw_all := tt33_all _ (List.mem_of_getElem? (i := 16) rfl)
theorem qw951 : Cond.methodLink RX11 207 yX7_numberOf ∈ lw_all := tt33_all _ (List.mem_of_getElem? (i := 17) rfl)
theorem qw952 : Cond.methodLink RX11 210 yX10_strikeAllWrong ∈ lw_all := tt33_all _ (List.mem_of_getElem? (i := 18) rfl)
theorem qw953 : Cond.instanceMethod yX10_strikeAllWrong ∈ lw_all := tt33_all _ (List.mem_of_getElem? (i := 19) rfl)
theorem qw954 : Cond.selects RX10 yX10_strikeAllWrong yX10_strikeAllWrong ∈ lw_all := tt33_all _ (List.mem_of_getElem? (i := 20) rfl)
theorem qw955 : Cond.code yX10_strikeAllWrong cX10_strikeAllWrong 4 (Option.some Jvm.ClassFile.FieldType.int) ∈ lw_all := tt33_all _ (List.mem_of_getElem? (i := 21) rfl)
theorem qw956 : Cond.methodLink RX10 137 yX9_isWrong ∈ lw_all := tt33_all _ (List.mem_of_getElem? (i := 22) rfl)
theorem qw957 : Cond.instanceMethod yX9_isWrong ∈ lw_all := tt33_all _ (List.mem_of_getElem? (i := 23) rfl)
theorem qw958 : Cond.selects RX9 yX9_isWrong yX9_isWrong ∈ lw_all := tt33_all _ (List.mem_of_getElem? (i := 24) rfl)
theorem qw959 : Cond.code yX9_isWrong cX9_isWrong 2 (Option.some Jvm.ClassFile.FieldType.boolean) ∈ lw_all := tt34_all _ (List.mem_of_getElem? (i := 0) rfl)
theorem qw960 : Cond.methodLink RX9 49 yX9_reasonOf ∈ lw_all := tt35_all _ (List.mem_of_getElem? (i := 0) rfl)
theorem qw961 : Cond.methodLink RL 78 yX11_pass ∈ lw_all := tt35_all _ (List.mem_of_getElem? (i := 1) rfl)
theorem qw962 : Cond.instanceMethod yX11_pass ∈ lw_all := tt35_all _ (List.mem_of_getElem? (i := 2) rfl)
theorem qw963 : Cond.selects RX11 yX11_pass yX11_pass ∈ lw_all := tt35_all _ (List.mem_of_getElem? (i := 3) rfl)
theorem qw964 : Cond.code yX11_pass cX11_pass 2 (Option.some Jvm.ClassFile.FieldType.int) ∈ lw_all := tt35_all _ (List.mem_of_getElem? (i := 4) rfl)
theorem qw965 : Cond.methodLink RX11 213 yX10_letDaysPass ∈ lw_all := tt35_all _ (List.mem_of_getElem? (i := 5) rfl)
theorem qw966 : Cond.instanceMethod yX10_letDaysPass ∈ lw_all := tt35_all _ (List.mem_of_getElem? (i := 6) rfl)
theorem qw967 : Cond.selects RX10 yX10_letDaysPass yX10_letDaysPass ∈ lw_all := tt35_all _ (List.mem_of_getElem? (i := 7) rfl)
theorem qw968 : Cond.code yX10_letDaysPass cX10_letDaysPass 4 (Option.some Jvm.ClassFile.FieldType.int) ∈ lw_all := tt35_all _ (List.mem_of_getElem? (i := 8) rfl)
theorem qw969 : Cond.methodLink RX10 70 yX2_countDayAtSea ∈ lw_all := tt35_all _ (List.mem_of_getElem? (i := 9) rfl)
theorem qw970 : Cond.instanceMethod yX2_countDayAtSea ∈ lw_all := tt35_all _ (List.mem_of_getElem? (i := 10) rfl)
theorem qw971 : Cond.selects RX2 yX2_countDayAtSea yX2_countDayAtSea ∈ lw_all := tt35_all _ (List.mem_of_getElem? (i := 11) rfl)
theorem qw972 : Cond.code yX2_countDayAtSea cX2_countDayAtSea 2 (Option.none : Option Jvm.ClassFile.FieldType) ∈ lw_all := tt35_all _ (List.mem_of_getElem? (i := 12) rfl)
theorem qw973 : Cond.methodLink RX2 74 yX2_daysAtSeaOf ∈ lw_all := tt35_all _ (List.mem_of_getElem? (i := 13) rfl)
theorem qw974 : Cond.instanceMethod yX2_daysAtSeaOf ∈ lw_all := tt35_all _ (List.mem_of_getElem? (i := 14) rfl)
theorem qw975 : Cond.selects RX2 yX2_daysAtSeaOf yX2_daysAtSeaOf ∈ lw_all := tt35_all _ (List.mem_of_getElem? (i := 15) rfl)
theorem qw976 : Cond.code yX2_daysAtSeaOf cX2_daysAtSeaOf 2 (Option.some Jvm.ClassFile.FieldType.int) ∈ lw_all := tt35_all _ (List.mem_of_getElem? (i := 16) rfl)
theorem qw977 : Cond.methodLink RX10 73 yX10_bringHomeTodays ∈ lw_all := tt35_all _ (List.mem_of_getElem? (i := 17) rfl)
theorem qw979 : Cond.instanceMethod yX10_bringHomeTodays ∈ lw_all := tt35_all _ (List.mem_of_getElem? (i := 18) rfl)
theorem qw980 : Cond.code yX10_bringHomeTodays cX10_bringHomeTodays 3 (Option.some Jvm.ClassFile.FieldType.int) ∈ lw_all := tt35_all _ (List.mem_of_getElem? (i := 19) rfl)
theorem qw981 : Cond.methodLink RX10 77 yX2_isOut ∈ lw_all := tt35_all _ (List.mem_of_getElem? (i := 20) rfl)
theorem qw982 : Cond.methodLink RX10 81 yX2_backOf ∈ lw_all := tt35_all _ (List.mem_of_getElem? (i := 21) rfl)
theorem qw983 : Cond.methodLink RX10 84 yX10_bringHome ∈ lw_all := tt35_all _ (List.mem_of_getElem? (i := 22) rfl)
theorem qw984 : Cond.methodLink RL 82 yX11_keep ∈ lw_all := tt35_all _ (List.mem_of_getElem? (i := 23) rfl)
theorem qw985 : Cond.instanceMethod yX11_keep ∈ lw_all := tt35_all _ (List.mem_of_getElem? (i := 24) rfl)
theorem qw986 : Cond.selects RX11 yX11_keep yX11_keep ∈ lw_all := tt36_all _ (List.mem_of_getElem? (i := 0) rfl)
theorem qw987 : Cond.code yX11_keep cX11_keep 2 (Option.some Jvm.ClassFile.FieldType.int) ∈ lw_all := tt36_all _ (List.mem_of_getElem? (i := 1) rfl)
theorem qw988 : Cond.methodLink RX11 216 yX11_isSlot ∈ lw_all := tt36_all _ (List.mem_of_getElem? (i := 2) rfl)
theorem qw990 : Cond.instanceMethod yX11_isSlot ∈ lw_all := tt36_all _ (List.mem_of_getElem? (i := 3) rfl)
theorem qw991 : Cond.code yX11_isSlot cX11_isSlot 2 (Option.some Jvm.ClassFile.FieldType.boolean) ∈ lw_all := tt36_all _ (List.mem_of_getElem? (i := 4) rfl)
theorem qw992 : Cond.methodLink RX11 219 yX8_copyFrom ∈ lw_all := tt36_all _ (List.mem_of_getElem? (i := 5) rfl)
theorem qw993 : Cond.methodLink RL 86 yX11_restore ∈ lw_all := tt36_all _ (List.mem_of_getElem? (i := 6) rfl)
theorem qw994 : Cond.instanceMethod yX11_restore ∈ lw_all := tt36_all _ (List.mem_of_getElem? (i := 7) rfl)
theorem qw995 : Cond.selects RX11 yX11_restore yX11_restore ∈ lw_all := tt36_all _ (List.mem_of_getElem? (i := 8) rfl)
theorem qw996 : Cond.code yX11_restore cX11_restore 2 (Option.some Jvm.ClassFile.FieldType.int) ∈ lw_all := tt36_all _ (List.mem_of_getElem? (i := 9) rfl)
theorem qw997 : Cond.methodLink RL 90 yX11_undo ∈ lw_all := tt36_all _ (List.mem_of_getElem? (i := 10) rfl)
theorem qw998 : Cond.instanceMethod yX11_undo ∈ lw_all := tt36_all _ (List.mem_of_getElem? (i := 11) rfl)
theorem qw999 : Cond.selects RX11 yX11_undo yX11_undo ∈ lw_all := tt36_all _ (List.mem_of_getElem? (i := 12) rfl)
theorem qw1000 : Cond.code yX11_undo cX11_undo 1 (Option.some Jvm.ClassFile.FieldType.int) ∈ lw_all := tt36_all _ (List.mem_of_getElem? (i := 13) rfl)
theorem qw1001 : Cond.methodLink RX11 225 yX3_bringBack ∈ lw_all := tt36_all _ (List.mem_of_getElem? (i := 14) rfl)
theorem qw1002 : Cond.instanceMethod yX3_bringBack ∈ lw_all := tt36_all _ (List.mem_of_getElem? (i := 15) rfl)
theorem qw1003 : Cond.selects RX3 yX3_bringBack yX3_bringBack ∈ lw_all := tt36_all _ (List.mem_of_getElem? (i := 16) rfl)
theorem qw1004 : Cond.code yX3_bringBack cX3_bringBack 3 (Option.some Jvm.ClassFile.FieldType.boolean) ∈ lw_all := tt36_all _ (List.mem_of_getElem? (i := 17) rfl)
theorem qw1005 : Cond.methodLink RX11 229 yX3_steps ∈ lw_all := tt36_all _ (List.mem_of_getElem? (i := 18) rfl)
theorem qw1006 : Cond.instanceMethod yX3_steps ∈ lw_all := tt36_all _ (List.mem_of_getElem? (i := 19) rfl)
theorem qw1007 : Cond.selects RX3 yX3_steps yX3_steps ∈ lw_all := tt36_all _ (List.mem_of_getElem? (i := 20) rfl)
theorem qw1008 : Cond.code yX3_steps cX3_steps 1 (Option.some Jvm.ClassFile.FieldType.int) ∈ lw_all := tt36_all _ (List.mem_of_getElem? (i := 21) rfl)
theorem qw1009 : Cond.methodLink RL 94 yX11_value ∈ lw_all := tt36_all _ (List.mem_of_getElem? (i := 22) rfl)
theorem qw1010 : Cond.instanceMethod yX11_value ∈ lw_all := tt36_all _ (List.mem_of_getElem? (i := 23) rfl)
theorem qw1011 : Cond.selects RX11 yX11_value yX11_value ∈ lw_all := tt36_all _ (List.mem_of_getElem? (i := 24) rfl)
theorem qw1012 : Cond.code yX11_value cX11_value 2 (Option.some Jvm.ClassFile.FieldType.int) ∈ lw_all := tt37_all _ (List.mem_of_getElem? (i := 0) rfl)
theorem qw1013 : Cond.methodLink RX11 232 yX10_seasonOn ∈ lw_all := tt37_all _ (List.mem_of_getElem? (i := 1) rfl)
theorem qw1014 : Cond.methodLink RX11 238 yX2_boatsOut ∈ lw_all := tt37_all _ (List.mem_of_getElem? (i := 2) rfl)
theorem qw1015 : Cond.methodLink RX11 241 yX2_peopleAtSea ∈ lw_all := tt37_all _ (List.mem_of_getElem? (i := 3) rfl)
theorem qw1016 : Cond.instanceMethod yX2_peopleAtSea ∈ lw_all := tt37_all _ (List.mem_of_getElem? (i := 4) rfl)
theorem qw1017 : Cond.selects RX2 yX2_peopleAtSea yX2_peopleAtSea ∈ lw_all := tt37_all _ (List.mem_of_getElem? (i := 5) rfl)
theorem qw1018 : Cond.code yX2_peopleAtSea cX2_peopleAtSea 3 (Option.some Jvm.ClassFile.FieldType.int) ∈ lw_all := tt37_all _ (List.mem_of_getElem? (i := 6) rfl)
theorem qw1019 : Cond.methodLink RX11 244 yX10_needOfVote ∈ lw_all := tt37_all _ (List.mem_of_getElem? (i := 7) rfl)
theorem qw1020 : Cond.methodLink RX11 247 yX9_turnout ∈ lw_all := tt37_all _ (List.mem_of_getElem? (i := 8) rfl)
theorem qw1021 : Cond.methodLink RX11 253 yX10_resultNow ∈ lw_all := tt37_all _ (List.mem_of_getElem? (i := 9) rfl)
theorem qw1022 : Cond.methodLink RX11 256 yX9_struckOnes ∈ lw_all := tt37_all _ (List.mem_of_getElem? (i := 10) rfl)
theorem qw1023 : Cond.instanceMethod yX9_struckOnes ∈ lw_all := tt37_all _ (List.mem_of_getElem? (i := 11) rfl)
theorem qw1024 : Cond.selects RX9 yX9_struckOnes yX9_struckOnes ∈ lw_all := tt37_all _ (List.mem_of_getElem? (i := 12) rfl)
theorem qw1025 : Cond.code yX9_struckOnes cX9_struckOnes 1 (Option.some Jvm.ClassFile.FieldType.int) ∈ lw_all := tt37_all _ (List.mem_of_getElem? (i := 13) rfl)
theorem qw1026 : Cond.methodLink RX11 266 yX5_size ∈ lw_all := tt37_all _ (List.mem_of_getElem? (i := 14) rfl)
theorem qw1027 : Cond.instanceMethod yX5_size ∈ lw_all := tt37_all _ (List.mem_of_getElem? (i := 15) rfl)
theorem qw1028 : Cond.selects RX5 yX5_size yX5_size ∈ lw_all := tt37_all _ (List.mem_of_getElem? (i := 16) rfl)
theorem qw1029 : Cond.code yX5_size cX5_size 1 (Option.some Jvm.ClassFile.FieldType.int) ∈ lw_all := tt37_all _ (List.mem_of_getElem? (i := 17) rfl)
theorem qw1030 : Cond.methodLink RX5 32 yJ9_min_7cf53 ∈ lw_all := tt37_all _ (List.mem_of_getElem? (i := 18) rfl)
theorem qw1031 : Cond.methodLink RX11 271 yX9_wrongMask ∈ lw_all := tt37_all _ (List.mem_of_getElem? (i := 19) rfl)
theorem qw1032 : Cond.instanceMethod yX9_wrongMask ∈ lw_all := tt37_all _ (List.mem_of_getElem? (i := 20) rfl)
theorem qw1033 : Cond.selects RX9 yX9_wrongMask yX9_wrongMask ∈ lw_all := tt37_all _ (List.mem_of_getElem? (i := 21) rfl)
theorem qw1034 : Cond.code yX9_wrongMask cX9_wrongMask 3 (Option.some Jvm.ClassFile.FieldType.int) ∈ lw_all := tt37_all _ (List.mem_of_getElem? (i := 22) rfl)
theorem qw1035 : Cond.methodLink RX9 70 yX9_isWrong ∈ lw_all := tt37_all _ (List.mem_of_getElem? (i := 23) rfl)
theorem qw1036 : Cond.methodLink RL 98 yX11_person ∈ lw_all := tt37_all _ (List.mem_of_getElem? (i := 24) rfl)
theorem qw1037 : Cond.instanceMethod yX11_person ∈ lw_all := tt38_all _ (List.mem_of_getElem? (i := 0) rfl)
theorem qw1038 : Cond.selects RX11 yX11_person yX11_person ∈ lw_all := tt38_all _ (List.mem_of_getElem? (i := 1) rfl)
theorem qw1039 : Cond.code yX11_person cX11_person 3 (Option.some Jvm.ClassFile.FieldType.int) ∈ lw_all := tt38_all _ (List.mem_of_getElem? (i := 2) rfl)
theorem qw1040 : Cond.methodLink RX11 274 yX10_homeDayOf ∈ lw_all := tt38_all _ (List.mem_of_getElem? (i := 3) rfl)
theorem qw1041 : Cond.instanceMethod yX10_homeDayOf ∈ lw_all := tt38_all _ (List.mem_of_getElem? (i := 4) rfl)
theorem qw1042 : Cond.selects RX10 yX10_homeDayOf yX10_homeDayOf ∈ lw_all := tt38_all _ (List.mem_of_getElem? (i := 5) rfl)
theorem qw1043 : Cond.code yX10_homeDayOf cX10_homeDayOf 2 (Option.some Jvm.ClassFile.FieldType.int) ∈ lw_all := tt38_all _ (List.mem_of_getElem? (i := 6) rfl)
theorem qw1044 : Cond.methodLink RX10 184 yX2_boatOf ∈ lw_all := tt38_all _ (List.mem_of_getElem? (i := 7) rfl)
theorem qw1045 : Cond.methodLink RX11 277 yX9_laidForOthers ∈ lw_all := tt38_all _ (List.mem_of_getElem? (i := 8) rfl)
theorem qw1046 : Cond.methodLink RX11 280 yX2_daysAtSeaOf ∈ lw_all := tt38_all _ (List.mem_of_getElem? (i := 9) rfl)
theorem qw1047 : Cond.methodLink RL 102 yX11_boat ∈ lw_all := tt38_all _ (List.mem_of_getElem? (i := 10) rfl)
theorem qw1048 : Cond.instanceMethod yX11_boat ∈ lw_all := tt38_all _ (List.mem_of_getElem? (i := 11) rfl)
theorem qw1049 : Cond.selects RX11 yX11_boat yX11_boat ∈ lw_all := tt38_all _ (List.mem_of_getElem? (i := 12) rfl)
theorem qw1050 : Cond.code yX11_boat cX11_boat 3 (Option.some Jvm.ClassFile.FieldType.int) ∈ lw_all := tt38_all _ (List.mem_of_getElem? (i := 13) rfl)
theorem qw1051 : Cond.methodLink RX11 283 yX2_aboard ∈ lw_all := tt38_all _ (List.mem_of_getElem? (i := 14) rfl)
theorem qw1052 : Cond.methodLink RX11 286 yX2_belongingTo ∈ lw_all := tt38_all _ (List.mem_of_getElem? (i := 15) rfl)
theorem qw1053 : Cond.instanceMethod yX2_belongingTo ∈ lw_all := tt38_all _ (List.mem_of_getElem? (i := 16) rfl)
theorem qw1054 : Cond.selects RX2 yX2_belongingTo yX2_belongingTo ∈ lw_all := tt38_all _ (List.mem_of_getElem? (i := 17) rfl)
theorem qw1055 : Cond.code yX2_belongingTo cX2_belongingTo 4 (Option.some Jvm.ClassFile.FieldType.int) ∈ lw_all := tt38_all _ (List.mem_of_getElem? (i := 18) rfl)
theorem qw1056 : Cond.methodLink RX11 289 yX2_sailedOf ∈ lw_all := tt38_all _ (List.mem_of_getElem? (i := 19) rfl)
theorem qw1057 : Cond.methodLink RL 106 yX11_stick ∈ lw_all := tt38_all _ (List.mem_of_getElem? (i := 20) rfl)
theorem qw1058 : Cond.instanceMethod yX11_stick ∈ lw_all := tt38_all _ (List.mem_of_getElem? (i := 21) rfl)
theorem qw1059 : Cond.selects RX11 yX11_stick yX11_stick ∈ lw_all := tt38_all _ (List.mem_of_getElem? (i := 22) rfl)
theorem qw1060 : Cond.code yX11_stick cX11_stick 3 (Option.some Jvm.ClassFile.FieldType.int) ∈ lw_all := tt38_all _ (List.mem_of_getElem? (i := 23) rfl)
theorem qw1061 : Cond.methodLink RX11 292 yX9_boundTo ∈ lw_all := tt38_all _ (List.mem_of_getElem? (i := 24) rfl)
theorem qw1062 : Cond.methodLink RX11 295 yX9_basketOf ∈ lw_all := tt39_all _ (List.mem_of_getElem? (i := 0) rfl)
theorem qw1063 : Cond.methodLink RX11 298 yX9_dayOf ∈ lw_all := tt39_all _ (List.mem_of_getElem? (i := 1) rfl)
theorem qw1064 : Cond.instanceMethod yX9_dayOf ∈ lw_all := tt39_all _ (List.mem_of_getElem? (i := 2) rfl)
theorem qw1065 : Cond.selects RX9 yX9_dayOf yX9_dayOf ∈ lw_all := tt39_all _ (List.mem_of_getElem? (i := 3) rfl)
theorem qw1066 : Cond.code yX9_dayOf cX9_dayOf 2 (Option.some Jvm.ClassFile.FieldType.int) ∈ lw_all := tt39_all _ (List.mem_of_getElem? (i := 4) rfl)
theorem qw1067 : Cond.methodLink RX11 301 yX9_reasonOf ∈ lw_all := tt39_all _ (List.mem_of_getElem? (i := 5) rfl)
theorem qw1068 : Cond.methodLink RL 110 yX11_basket ∈ lw_all := tt39_all _ (List.mem_of_getElem? (i := 6) rfl)
theorem qw1069 : Cond.instanceMethod yX11_basket ∈ lw_all := tt39_all _ (List.mem_of_getElem? (i := 7) rfl)
theorem qw1070 : Cond.selects RX11 yX11_basket yX11_basket ∈ lw_all := tt39_all _ (List.mem_of_getElem? (i := 8) rfl)
theorem qw1071 : Cond.code yX11_basket cX11_basket 2 (Option.some Jvm.ClassFile.FieldType.int) ∈ lw_all := tt39_all _ (List.mem_of_getElem? (i := 9) rfl)
theorem qw1072 : Cond.methodLink RX11 304 yX9_countIn ∈ lw_all := tt39_all _ (List.mem_of_getElem? (i := 10) rfl)
theorem qw1073 : Cond.methodLink RL 114 yX11_number ∈ lw_all := tt39_all _ (List.mem_of_getElem? (i := 11) rfl)
theorem qw1074 : Cond.instanceMethod yX11_number ∈ lw_all := tt39_all _ (List.mem_of_getElem? (i := 12) rfl)
theorem qw1075 : Cond.selects RX11 yX11_number yX11_number ∈ lw_all := tt39_all _ (List.mem_of_getElem? (i := 13) rfl)
theorem qw1076 : Cond.code yX11_number cX11_number 2 (Option.some Jvm.ClassFile.FieldType.int) ∈ lw_all := tt39_all _ (List.mem_of_getElem? (i := 14) rfl)
theorem qw1077 : Cond.methodLink RL 118 yX11_past ∈ lw_all := tt39_all _ (List.mem_of_getElem? (i := 15) rfl)
theorem qw1078 : Cond.instanceMethod yX11_past ∈ lw_all := tt39_all _ (List.mem_of_getElem? (i := 16) rfl)
theorem qw1079 : Cond.selects RX11 yX11_past yX11_past ∈ lw_all := tt39_all _ (List.mem_of_getElem? (i := 17) rfl)
theorem qw1080 : Cond.code yX11_past cX11_past 3 (Option.some Jvm.ClassFile.FieldType.int) ∈ lw_all := tt39_all _ (List.mem_of_getElem? (i := 18) rfl)
theorem qw1081 : Cond.methodLink RX11 314 yX5_part ∈ lw_all := tt39_all _ (List.mem_of_getElem? (i := 19) rfl)
theorem qw1082 : Cond.instanceMethod yX5_part ∈ lw_all := tt39_all _ (List.mem_of_getElem? (i := 20) rfl)
theorem qw1083 : Cond.selects RX5 yX5_part yX5_part ∈ lw_all := tt39_all _ (List.mem_of_getElem? (i := 21) rfl)
theorem qw1084 : Cond.code yX5_part cX5_part 3 (Option.some Jvm.ClassFile.FieldType.int) ∈ lw_all := tt39_all _ (List.mem_of_getElem? (i := 22) rfl)
theorem qw1086 : Cond.methodLink RL 122 yX11_log ∈ lw_all := tt39_all _ (List.mem_of_getElem? (i := 23) rfl)
theorem qw1087 : Cond.instanceMethod yX11_log ∈ lw_all := tt39_all _ (List.mem_of_getElem? (i := 24) rfl)
theorem qw1088 : Cond.selects RX11 yX11_log yX11_log ∈ lw_all := tt40_all _ (List.mem_of_getElem? (i := 0) rfl)
theorem qw1089 : Cond.code yX11_log cX11_log 3 (Option.some Jvm.ClassFile.FieldType.int) ∈ lw_all := tt40_all _ (List.mem_of_getElem? (i := 1) rfl)
theorem qw1090 : Cond.methodLink RX11 317 yX5_oldest ∈ lw_all := tt40_all _ (List.mem_of_getElem? (i := 2) rfl)
theorem qw1091 : Cond.methodLink RL 126 yX11_named ∈ lw_all := tt40_all _ (List.mem_of_getElem? (i := 3) rfl)
theorem qw1092 : Cond.instanceMethod yX11_named ∈ lw_all := tt40_all _ (List.mem_of_getElem? (i := 4) rfl)
theorem qw1093 : Cond.selects RX11 yX11_named yX11_named ∈ lw_all := tt40_all _ (List.mem_of_getElem? (i := 5) rfl)
theorem qw1094 : Cond.code yX11_named cX11_named 3 (Option.some Jvm.ClassFile.FieldType.int) ∈ lw_all := tt40_all _ (List.mem_of_getElem? (i := 6) rfl)
theorem qw1095 : Cond.methodLink RX11 320 yX7_isName ∈ lw_all := tt40_all _ (List.mem_of_getElem? (i := 7) rfl)
theorem qw1096 : Cond.static yX7_isName ∈ lw_all := tt40_all _ (List.mem_of_getElem? (i := 8) rfl)
theorem qw1097 : Cond.code yX7_isName cX7_isName 4 (Option.some Jvm.ClassFile.FieldType.boolean) ∈ lw_all := tt40_all _ (List.mem_of_getElem? (i := 9) rfl)
theorem qw1098 : Cond.methodLink RX11 323 yX7_boatNamed ∈ lw_all := tt40_all _ (List.mem_of_getElem? (i := 10) rfl)
theorem qw1099 : Cond.methodLink RX11 326 yX7_personNamed ∈ lw_all := tt40_all _ (List.mem_of_getElem? (i := 11) rfl)
theorem qw1100 : Cond.methodLink RL 131 yX11_owners ∈ lw_all := tt40_all _ (List.mem_of_getElem? (i := 12) rfl)
theorem qw1101 : Cond.instanceMethod yX11_owners ∈ lw_all := tt40_all _ (List.mem_of_getElem? (i := 13) rfl)
theorem qw1102 : Cond.selects RX11 yX11_owners yX11_owners ∈ lw_all := tt40_all _ (List.mem_of_getElem? (i := 14) rfl)
theorem qw1103 : Cond.code yX11_owners cX11_owners 2 (Option.some Jvm.ClassFile.FieldType.int) ∈ lw_all := tt40_all _ (List.mem_of_getElem? (i := 15) rfl)
theorem qw1104 : Cond.methodLink RX11 329 yX9_maskIn ∈ lw_all := tt40_all _ (List.mem_of_getElem? (i := 16) rfl)
theorem qw1105 : Cond.methodLink RL 135 yX11_carries ∈ lw_all := tt40_all _ (List.mem_of_getElem? (i := 17) rfl)
theorem qw1106 : Cond.instanceMethod yX11_carries ∈ lw_all := tt40_all _ (List.mem_of_getElem? (i := 18) rfl)
theorem qw1107 : Cond.selects RX11 yX11_carries yX11_carries ∈ lw_all := tt40_all _ (List.mem_of_getElem? (i := 19) rfl)
theorem qw1108 : Cond.code yX11_carries cX11_carries 2 (Option.some Jvm.ClassFile.FieldType.int) ∈ lw_all := tt40_all _ (List.mem_of_getElem? (i := 20) rfl)
theorem qw1109 : Cond.methodLink RL 139 yX11_wrongOnes ∈ lw_all := tt40_all _ (List.mem_of_getElem? (i := 21) rfl)
theorem qw1110 : Cond.instanceMethod yX11_wrongOnes ∈ lw_all := tt40_all _ (List.mem_of_getElem? (i := 22) rfl)
theorem qw1111 : Cond.selects RX11 yX11_wrongOnes yX11_wrongOnes ∈ lw_all := tt40_all _ (List.mem_of_getElem? (i := 23) rfl)
theorem qw1112 : Cond.code yX11_wrongOnes cX11_wrongOnes 1 (Option.some Jvm.ClassFile.FieldType.int) ∈ lw_all := tt40_all _ (List.mem_of_getElem? (i := 24) rfl)
theorem qw1113 : Cond.methodLink RL 143 yX11_why ∈ lw_all := tt41_all _ (List.mem_of_getElem? (i := 0) rfl)
theorem qw1114 : Cond.instanceMethod yX11_why ∈ lw_all := tt41_all _ (List.mem_of_getElem? (i := 1) rfl)
theorem qw1115 : Cond.selects RX11 yX11_why yX11_why ∈ lw_all := tt41_all _ (List.mem_of_getElem? (i := 2) rfl)
theorem qw1116 : Cond.code yX11_why cX11_why 5 (Option.some Jvm.ClassFile.FieldType.int) ∈ lw_all := tt41_all _ (List.mem_of_getElem? (i := 3) rfl)
theorem qw1117 : Cond.methodLink RX11 332 yX10_reasonFor ∈ lw_all := tt41_all _ (List.mem_of_getElem? (i := 4) rfl)
theorem qw1118 : Cond.methodLink RL 147 yX11_needIfHome ∈ lw_all := tt41_all _ (List.mem_of_getElem? (i := 5) rfl)
theorem qw1119 : Cond.instanceMethod yX11_needIfHome ∈ lw_all := tt41_all _ (List.mem_of_getElem? (i := 6) rfl)
theorem qw1120 : Cond.selects RX11 yX11_needIfHome yX11_needIfHome ∈ lw_all := tt41_all _ (List.mem_of_getElem? (i := 7) rfl)
theorem qw1121 : Cond.code yX11_needIfHome cX11_needIfHome 2 (Option.some Jvm.ClassFile.FieldType.int) ∈ lw_all := tt41_all _ (List.mem_of_getElem? (i := 8) rfl)
theorem qw1122 : Cond.methodLink RX11 335 yX10_needOf ∈ lw_all := tt41_all _ (List.mem_of_getElem? (i := 9) rfl)
theorem qw1123 : Cond.methodLink RL 151 yX11_leads ∈ lw_all := tt41_all _ (List.mem_of_getElem? (i := 10) rfl)
theorem qw1124 : Cond.instanceMethod yX11_leads ∈ lw_all := tt41_all _ (List.mem_of_getElem? (i := 11) rfl)
theorem qw1125 : Cond.selects RX11 yX11_leads yX11_leads ∈ lw_all := tt41_all _ (List.mem_of_getElem? (i := 12) rfl)
theorem qw1126 : Cond.code yX11_leads cX11_leads 1 (Option.some Jvm.ClassFile.FieldType.int) ∈ lw_all := tt41_all _ (List.mem_of_getElem? (i := 13) rfl)
theorem qw1127 : Cond.methodLink RL 155 yX11_truly ∈ lw_all := tt41_all _ (List.mem_of_getElem? (i := 14) rfl)
theorem qw1128 : Cond.instanceMethod yX11_truly ∈ lw_all := tt41_all _ (List.mem_of_getElem? (i := 15) rfl)
theorem qw1129 : Cond.selects RX11 yX11_truly yX11_truly ∈ lw_all := tt41_all _ (List.mem_of_getElem? (i := 16) rfl)
theorem qw1130 : Cond.code yX11_truly cX11_truly 1 (Option.some Jvm.ClassFile.FieldType.int) ∈ lw_all := tt41_all _ (List.mem_of_getElem? (i := 17) rfl)
theorem qw1131 : Cond.methodLink RX11 338 yX10_resultOfRightOnes ∈ lw_all := tt41_all _ (List.mem_of_getElem? (i := 18) rfl)
theorem qw1132 : Cond.instanceMethod yX10_resultOfRightOnes ∈ lw_all := tt41_all _ (List.mem_of_getElem? (i := 19) rfl)
theorem qw1133 : Cond.selects RX10 yX10_resultOfRightOnes yX10_resultOfRightOnes ∈ lw_all := tt41_all _ (List.mem_of_getElem? (i := 20) rfl)
theorem qw1134 : Cond.code yX10_resultOfRightOnes cX10_resultOfRightOnes 2 (Option.some Jvm.ClassFile.FieldType.int) ∈ lw_all := tt41_all _ (List.mem_of_getElem? (i := 21) rfl)
theorem qw1135 : Cond.methodLink RX10 227 yX0_leaveOut ∈ lw_all := tt41_all _ (List.mem_of_getElem? (i := 22) rfl)
theorem qw1136 : Cond.instanceMethod yX0_leaveOut ∈ lw_all := tt41_all _ (List.mem_of_getElem? (i := 23) rfl)
theorem qw1137 : Cond.selects RX0 yX0_leaveOut yX0_leaveOut ∈ lw_all := tt41_all _ (List.mem_of_getElem? (i := 24) rfl)
theorem qw1138 : Cond.code yX0_leaveOut cX0_leaveOut 2 (Option.none : Option Jvm.ClassFile.FieldType) ∈ lw_all := tt42_all _ (List.mem_of_getElem? (i := 0) rfl)
theorem qw1139 : Cond.methodLink RL 159 yX11_canWin ∈ lw_all := tt42_all _ (List.mem_of_getElem? (i := 1) rfl)
theorem qw1140 : Cond.instanceMethod yX11_canWin ∈ lw_all := tt42_all _ (List.mem_of_getElem? (i := 2) rfl)
theorem qw1141 : Cond.selects RX11 yX11_canWin yX11_canWin ∈ lw_all := tt42_all _ (List.mem_of_getElem? (i := 3) rfl)
theorem qw1142 : Cond.code yX11_canWin cX11_canWin 2 (Option.some Jvm.ClassFile.FieldType.boolean) ∈ lw_all := tt42_all _ (List.mem_of_getElem? (i := 4) rfl)
theorem qw1143 : Cond.methodLink RX11 341 yX10_resultWithAllInto ∈ lw_all := tt42_all _ (List.mem_of_getElem? (i := 5) rfl)
theorem qw1144 : Cond.instanceMethod yX10_resultWithAllInto ∈ lw_all := tt42_all _ (List.mem_of_getElem? (i := 6) rfl)
theorem qw1145 : Cond.selects RX10 yX10_resultWithAllInto yX10_resultWithAllInto ∈ lw_all := tt42_all _ (List.mem_of_getElem? (i := 7) rfl)
theorem qw1146 : Cond.code yX10_resultWithAllInto cX10_resultWithAllInto 3 (Option.some Jvm.ClassFile.FieldType.int) ∈ lw_all := tt42_all _ (List.mem_of_getElem? (i := 8) rfl)
theorem qw1147 : Cond.methodLink RX10 230 yX10_canBeLaid ∈ lw_all := tt42_all _ (List.mem_of_getElem? (i := 9) rfl)
theorem qw1149 : Cond.instanceMethod yX10_canBeLaid ∈ lw_all := tt42_all _ (List.mem_of_getElem? (i := 10) rfl)
theorem qw1150 : Cond.code yX10_canBeLaid cX10_canBeLaid 3 (Option.some Jvm.ClassFile.FieldType.boolean) ∈ lw_all := tt42_all _ (List.mem_of_getElem? (i := 11) rfl)
theorem qw1151 : Cond.methodLink RX10 237 yX9_placeOf ∈ lw_all := tt42_all _ (List.mem_of_getElem? (i := 12) rfl)
theorem qw1152 : Cond.methodLink RX10 240 yX9_carrierOf ∈ lw_all := tt42_all _ (List.mem_of_getElem? (i := 13) rfl)
theorem qw1153 : Cond.methodLink RX10 233 yX0_put ∈ lw_all := tt42_all _ (List.mem_of_getElem? (i := 14) rfl)
theorem qw1154 : Cond.instanceMethod yX0_put ∈ lw_all := tt42_all _ (List.mem_of_getElem? (i := 15) rfl)
theorem qw1155 : Cond.selects RX0 yX0_put yX0_put ∈ lw_all := tt42_all _ (List.mem_of_getElem? (i := 16) rfl)
theorem qw1156 : Cond.code yX0_put cX0_put 3 (Option.none : Option Jvm.ClassFile.FieldType) ∈ lw_all := tt42_all _ (List.mem_of_getElem? (i := 17) rfl)
theorem qw1157 : Cond.methodLink RL 164 yX11_decisive ∈ lw_all := tt42_all _ (List.mem_of_getElem? (i := 18) rfl)
theorem qw1158 : Cond.instanceMethod yX11_decisive ∈ lw_all := tt42_all _ (List.mem_of_getElem? (i := 19) rfl)
theorem qw1159 : Cond.selects RX11 yX11_decisive yX11_decisive ∈ lw_all := tt42_all _ (List.mem_of_getElem? (i := 20) rfl)
theorem qw1160 : Cond.code yX11_decisive cX11_decisive 1 (Option.some Jvm.ClassFile.FieldType.int) ∈ lw_all := tt42_all _ (List.mem_of_getElem? (i := 21) rfl)
theorem qw1161 : Cond.methodLink RX11 344 yX10_decidingSticks ∈ lw_all := tt42_all _ (List.mem_of_getElem? (i := 22) rfl)
theorem qw1162 : Cond.instanceMethod yX10_decidingSticks ∈ lw_all := tt42_all _ (List.mem_of_getElem? (i := 23) rfl)
theorem qw1163 : Cond.selects RX10 yX10_decidingSticks yX10_decidingSticks ∈ lw_all := tt42_all _ (List.mem_of_getElem? (i := 24) rfl)
theorem qw1164 : Cond.code yX10_decidingSticks cX10_decidingSticks 4 (Option.some Jvm.ClassFile.FieldType.int) ∈ lw_all := tt43_all _ (List.mem_of_getElem? (i := 0) rfl)
theorem qw1165 : Cond.methodLink RX10 243 yX9_basketOf ∈ lw_all := tt43_all _ (List.mem_of_getElem? (i := 1) rfl)
theorem qw1166 : Cond.methodLink RL 168 yX11_lacks ∈ lw_all := tt43_all _ (List.mem_of_getElem? (i := 2) rfl)
theorem qw1167 : Cond.instanceMethod yX11_lacks ∈ lw_all := tt43_all _ (List.mem_of_getElem? (i := 3) rfl)
theorem qw1168 : Cond.selects RX11 yX11_lacks yX11_lacks ∈ lw_all := tt43_all _ (List.mem_of_getElem? (i := 4) rfl)
theorem qw1169 : Cond.code yX11_lacks cX11_lacks 1 (Option.some Jvm.ClassFile.FieldType.int) ∈ lw_all := tt43_all _ (List.mem_of_getElem? (i := 5) rfl)
theorem qw1170 : Cond.methodLink RX11 347 yJ9_max_7cf53 ∈ lw_all := tt43_all _ (List.mem_of_getElem? (i := 6) rfl)
theorem qw1171 : Cond.methodLink RL 172 yX11_needIn ∈ lw_all := tt43_all _ (List.mem_of_getElem? (i := 7) rfl)
theorem qw1172 : Cond.instanceMethod yX11_needIn ∈ lw_all := tt43_all _ (List.mem_of_getElem? (i := 8) rfl)
theorem qw1173 : Cond.selects RX11 yX11_needIn yX11_needIn ∈ lw_all := tt43_all _ (List.mem_of_getElem? (i := 9) rfl)
theorem qw1174 : Cond.code yX11_needIn cX11_needIn 2 (Option.some Jvm.ClassFile.FieldType.int) ∈ lw_all := tt43_all _ (List.mem_of_getElem? (i := 10) rfl)
theorem qw1175 : Cond.methodLink RX11 352 yX10_needBehind ∈ lw_all := tt43_all _ (List.mem_of_getElem? (i := 11) rfl)
theorem qw1176 : Cond.instanceMethod yX10_needBehind ∈ lw_all := tt43_all _ (List.mem_of_getElem? (i := 12) rfl)
theorem qw1177 : Cond.selects RX10 yX10_needBehind yX10_needBehind ∈ lw_all := tt43_all _ (List.mem_of_getElem? (i := 13) rfl)
theorem qw1178 : Cond.code yX10_needBehind cX10_needBehind 3 (Option.some Jvm.ClassFile.FieldType.int) ∈ lw_all := tt43_all _ (List.mem_of_getElem? (i := 14) rfl)
theorem qw1179 : Cond.methodLink RX10 196 yX2_boatsOutOn ∈ lw_all := tt43_all _ (List.mem_of_getElem? (i := 15) rfl)
theorem qw1180 : Cond.instanceMethod yX2_boatsOutOn ∈ lw_all := tt43_all _ (List.mem_of_getElem? (i := 16) rfl)
theorem qw1181 : Cond.selects RX2 yX2_boatsOutOn yX2_boatsOutOn ∈ lw_all := tt43_all _ (List.mem_of_getElem? (i := 17) rfl)
theorem qw1182 : Cond.code yX2_boatsOutOn cX2_boatsOutOn 4 (Option.some Jvm.ClassFile.FieldType.int) ∈ lw_all := tt43_all _ (List.mem_of_getElem? (i := 18) rfl)
theorem qw1183 : Cond.methodLink RL 176 yX11_bestDay ∈ lw_all := tt43_all _ (List.mem_of_getElem? (i := 19) rfl)
theorem qw1184 : Cond.instanceMethod yX11_bestDay ∈ lw_all := tt43_all _ (List.mem_of_getElem? (i := 20) rfl)
theorem qw1185 : Cond.selects RX11 yX11_bestDay yX11_bestDay ∈ lw_all := tt43_all _ (List.mem_of_getElem? (i := 21) rfl)
theorem qw1186 : Cond.code yX11_bestDay cX11_bestDay 2 (Option.some Jvm.ClassFile.FieldType.int) ∈ lw_all := tt43_all _ (List.mem_of_getElem? (i := 22) rfl)
theorem qw1187 : Cond.methodLink RX11 355 yX10_bestDayUpTo ∈ lw_all := tt43_all _ (List.mem_of_getElem? (i := 23) rfl)
theorem qw1188 : Cond.instanceMethod yX10_bestDayUpTo ∈ lw_all := tt43_all _ (List.mem_of_getElem? (i := 24) rfl)
theorem qw1189 : Cond.selects RX10 yX10_bestDayUpTo yX10_bestDayUpTo ∈ lw_all := tt44_all _ (List.mem_of_getElem? (i := 0) rfl)
theorem qw1190 : Cond.code yX10_bestDayUpTo cX10_bestDayUpTo 6 (Option.some Jvm.ClassFile.FieldType.int) ∈ lw_all := tt44_all _ (List.mem_of_getElem? (i := 1) rfl)
theorem qw1191 : Cond.methodLink RX10 205 yX10_surplusBehind ∈ lw_all := tt44_all _ (List.mem_of_getElem? (i := 2) rfl)
theorem qw1193 : Cond.instanceMethod yX10_surplusBehind ∈ lw_all := tt44_all _ (List.mem_of_getElem? (i := 3) rfl)
theorem qw1194 : Cond.code yX10_surplusBehind cX10_surplusBehind 3 (Option.some Jvm.ClassFile.FieldType.int) ∈ lw_all := tt44_all _ (List.mem_of_getElem? (i := 4) rfl)
theorem qw1195 : Cond.methodLink RX10 208 yX2_peopleAtSeaOn ∈ lw_all := tt44_all _ (List.mem_of_getElem? (i := 5) rfl)
theorem qw1196 : Cond.instanceMethod yX2_peopleAtSeaOn ∈ lw_all := tt44_all _ (List.mem_of_getElem? (i := 6) rfl)
theorem qw1197 : Cond.selects RX2 yX2_peopleAtSeaOn yX2_peopleAtSeaOn ∈ lw_all := tt44_all _ (List.mem_of_getElem? (i := 7) rfl)
theorem qw1198 : Cond.code yX2_peopleAtSeaOn cX2_peopleAtSeaOn 4 (Option.some Jvm.ClassFile.FieldType.int) ∈ lw_all := tt44_all _ (List.mem_of_getElem? (i := 8) rfl)
theorem qw1199 : Cond.methodLink RX10 211 yX10_needBehind ∈ lw_all := tt44_all _ (List.mem_of_getElem? (i := 9) rfl)
theorem qw1200 : Cond.methodLink RL 180 yX11_mightiest ∈ lw_all := tt45_all _ (List.mem_of_getElem? (i := 0) rfl)
theorem qw1201 : Cond.instanceMethod yX11_mightiest ∈ lw_all := tt45_all _ (List.mem_of_getElem? (i := 1) rfl)
theorem qw1202 : Cond.selects RX11 yX11_mightiest yX11_mightiest ∈ lw_all := tt45_all _ (List.mem_of_getElem? (i := 2) rfl)
theorem qw1203 : Cond.code yX11_mightiest cX11_mightiest 1 (Option.some Jvm.ClassFile.FieldType.int) ∈ lw_all := tt45_all _ (List.mem_of_getElem? (i := 3) rfl)
theorem qw1204 : Cond.methodLink RX11 358 yX10_mightiestCarrier ∈ lw_all := tt45_all _ (List.mem_of_getElem? (i := 4) rfl)
theorem qw1205 : Cond.instanceMethod yX10_mightiestCarrier ∈ lw_all := tt45_all _ (List.mem_of_getElem? (i := 5) rfl)
theorem qw1206 : Cond.selects RX10 yX10_mightiestCarrier yX10_mightiestCarrier ∈ lw_all := tt45_all _ (List.mem_of_getElem? (i := 6) rfl)
theorem qw1207 : Cond.code yX10_mightiestCarrier cX10_mightiestCarrier 5 (Option.some Jvm.ClassFile.FieldType.int) ∈ lw_all := tt45_all _ (List.mem_of_getElem? (i := 7) rfl)
theorem qw1208 : Cond.methodLink RX10 246 yX10_mightOf ∈ lw_all := tt45_all _ (List.mem_of_getElem? (i := 8) rfl)
theorem qw1210 : Cond.instanceMethod yX10_mightOf ∈ lw_all := tt45_all _ (List.mem_of_getElem? (i := 9) rfl)
theorem qw1211 : Cond.code yX10_mightOf cX10_mightOf 5 (Option.some Jvm.ClassFile.FieldType.int) ∈ lw_all := tt45_all _ (List.mem_of_getElem? (i := 10) rfl)
theorem qw1212 : Cond.methodLink RX10 249 yX9_carriedBy ∈ lw_all := tt45_all _ (List.mem_of_getElem? (i := 11) rfl)
theorem qw1213 : Cond.methodLink RX10 252 yJ9_min_7cf53 ∈ lw_all := tt45_all _ (List.mem_of_getElem? (i := 12) rfl)
theorem qw1214 : Cond.methodLink RL 184 yX11_agrees ∈ lw_all := tt45_all _ (List.mem_of_getElem? (i := 13) rfl)
theorem qw1215 : Cond.instanceMethod yX11_agrees ∈ lw_all := tt45_all _ (List.mem_of_getElem? (i := 14) rfl)
theorem qw1216 : Cond.selects RX11 yX11_agrees yX11_agrees ∈ lw_all := tt45_all _ (List.mem_of_getElem? (i := 15) rfl)
theorem qw1217 : Cond.code yX11_agrees cX11_agrees 1 (Option.some Jvm.ClassFile.FieldType.boolean) ∈ lw_all := tt45_all _ (List.mem_of_getElem? (i := 16) rfl)
theorem qw1218 : Cond.methodLink RL 189 yX11_share ∈ lw_all := tt45_all _ (List.mem_of_getElem? (i := 17) rfl)
theorem qw1219 : Cond.instanceMethod yX11_share ∈ lw_all := tt45_all _ (List.mem_of_getElem? (i := 18) rfl)
theorem qw1220 : Cond.selects RX11 yX11_share yX11_share ∈ lw_all := tt45_all _ (List.mem_of_getElem? (i := 19) rfl)
theorem qw1221 : Cond.code yX11_share cX11_share 3 (Option.some Jvm.ClassFile.FieldType.float) ∈ lw_all := tt45_all _ (List.mem_of_getElem? (i := 20) rfl)
theorem qw1222 : Cond.constantFloat RX11 364 (3212836864 : UInt32) ∈ lw_all := tt45_all _ (List.mem_of_getElem? (i := 21) rfl)
theorem qw1223 : Cond.methodLink RL 194 yX11_seafaring ∈ lw_all := tt45_all _ (List.mem_of_getElem? (i := 22) rfl)
theorem qw1224 : Cond.instanceMethod yX11_seafaring ∈ lw_all := tt45_all _ (List.mem_of_getElem? (i := 23) rfl)
theorem qw1225 : Cond.selects RX11 yX11_seafaring yX11_seafaring ∈ lw_all := tt45_all _ (List.mem_of_getElem? (i := 24) rfl)
theorem qw1226 : Cond.code yX11_seafaring cX11_seafaring 3 (Option.some Jvm.ClassFile.FieldType.double) ∈ lw_all := tt46_all _ (List.mem_of_getElem? (i := 0) rfl)
theorem qw1227 : Cond.methodLink RX11 365 yX2_daysAtSeaOfAll ∈ lw_all := tt46_all _ (List.mem_of_getElem? (i := 1) rfl)
theorem qw1228 : Cond.instanceMethod yX2_daysAtSeaOfAll ∈ lw_all := tt46_all _ (List.mem_of_getElem? (i := 2) rfl)
theorem qw1229 : Cond.selects RX2 yX2_daysAtSeaOfAll yX2_daysAtSeaOfAll ∈ lw_all := tt46_all _ (List.mem_of_getElem? (i := 3) rfl)
theorem qw1230 : Cond.code yX2_daysAtSeaOfAll cX2_daysAtSeaOfAll 4 (Option.some Jvm.ClassFile.FieldType.long) ∈ lw_all := tt46_all _ (List.mem_of_getElem? (i := 4) rfl)
theorem qw1231 : Cond.methodLink RL 199 yX11_viewLength ∈ lw_all := tt46_all _ (List.mem_of_getElem? (i := 5) rfl)
theorem qw1232 : Cond.instanceMethod yX11_viewLength ∈ lw_all := tt46_all _ (List.mem_of_getElem? (i := 6) rfl)
theorem qw1233 : Cond.selects RX11 yX11_viewLength yX11_viewLength ∈ lw_all := tt46_all _ (List.mem_of_getElem? (i := 7) rfl)
theorem qw1234 : Cond.code yX11_viewLength cX11_viewLength 1 (Option.some Jvm.ClassFile.FieldType.int) ∈ lw_all := tt46_all _ (List.mem_of_getElem? (i := 8) rfl)
theorem qw1235 : Cond.methodLink RX11 369 yX6_writeView ∈ lw_all := tt46_all _ (List.mem_of_getElem? (i := 9) rfl)
theorem qw1236 : Cond.instanceMethod yX6_writeView ∈ lw_all := tt46_all _ (List.mem_of_getElem? (i := 10) rfl)
theorem qw1237 : Cond.selects RX6 yX6_writeView yX6_writeView ∈ lw_all := tt46_all _ (List.mem_of_getElem? (i := 11) rfl)
theorem qw1238 : Cond.code yX6_writeView cX6_writeView 4 (Option.some (Jvm.ClassFile.FieldType.object "StickVotes$Bytes")) ∈ lw_all := tt46_all _ (List.mem_of_getElem? (i := 12) rfl)
theorem qw1239 : Cond.methodLink RX6 20 yX1_cutTo ∈ lw_all := tt46_all _ (List.mem_of_getElem? (i := 13) rfl)
theorem qw1240 : Cond.methodLink RX6 23 yX7_people ∈ lw_all := tt46_all _ (List.mem_of_getElem? (i := 14) rfl)
theorem qw1241 : Cond.methodLink RX6 29 yX7_personName ∈ lw_all := tt46_all _ (List.mem_of_getElem? (i := 15) rfl)
theorem qw1242 : Cond.instanceMethod yX7_personName ∈ lw_all := tt46_all _ (List.mem_of_getElem? (i := 16) rfl)
theorem qw1243 : Cond.selects RX7 yX7_personName yX7_personName ∈ lw_all := tt46_all _ (List.mem_of_getElem? (i := 17) rfl)
theorem qw1244 : Cond.code yX7_personName cX7_personName 2 (Option.some Jvm.ClassFile.FieldType.int) ∈ lw_all := tt46_all _ (List.mem_of_getElem? (i := 18) rfl)
theorem qw1245 : Cond.methodLink RX6 33 yX1_addName ∈ lw_all := tt46_all _ (List.mem_of_getElem? (i := 19) rfl)
theorem qw1246 : Cond.instanceMethod yX1_addName ∈ lw_all := tt46_all _ (List.mem_of_getElem? (i := 20) rfl)
theorem qw1247 : Cond.selects RX1 yX1_addName yX1_addName ∈ lw_all := tt46_all _ (List.mem_of_getElem? (i := 21) rfl)
theorem qw1248 : Cond.code yX1_addName cX1_addName 4 (Option.none : Option Jvm.ClassFile.FieldType) ∈ lw_all := tt46_all _ (List.mem_of_getElem? (i := 22) rfl)
theorem qw1249 : Cond.methodLink RX6 36 yX1_add ∈ lw_all := tt46_all _ (List.mem_of_getElem? (i := 23) rfl)
theorem qw1250 : Cond.methodLink RX6 45 yX6_writeStick ∈ lw_all := tt46_all _ (List.mem_of_getElem? (i := 24) rfl)
theorem qw1252 : Cond.instanceMethod yX6_writeStick ∈ lw_all := tt47_all _ (List.mem_of_getElem? (i := 0) rfl)
theorem qw1253 : Cond.code yX6_writeStick cX6_writeStick 6 (Option.none : Option Jvm.ClassFile.FieldType) ∈ lw_all := tt47_all _ (List.mem_of_getElem? (i := 1) rfl)
theorem qw1254 : Cond.methodLink RX6 65 yX9_carrierOf ∈ lw_all := tt47_all _ (List.mem_of_getElem? (i := 2) rfl)
theorem qw1255 : Cond.methodLink RX6 70 yX9_basketOf ∈ lw_all := tt47_all _ (List.mem_of_getElem? (i := 3) rfl)
theorem qw1256 : Cond.methodLink RX6 73 yX9_placeOf ∈ lw_all := tt47_all _ (List.mem_of_getElem? (i := 4) rfl)
theorem qw1257 : Cond.methodLink RX6 76 yX6_placeWord ∈ lw_all := tt47_all _ (List.mem_of_getElem? (i := 5) rfl)
theorem qw1258 : Cond.static yX6_placeWord ∈ lw_all := tt47_all _ (List.mem_of_getElem? (i := 6) rfl)
theorem qw1259 : Cond.code yX6_placeWord cX6_placeWord 1 (Option.some (Jvm.ClassFile.FieldType.object "java/lang/String")) ∈ lw_all := tt47_all _ (List.mem_of_getElem? (i := 7) rfl)
theorem qw1264 : Cond.methodLink RX6 61 yX1_addText ∈ lw_all := tt47_all _ (List.mem_of_getElem? (i := 8) rfl)
theorem qw1265 : Cond.instanceMethod yX1_addText ∈ lw_all := tt47_all _ (List.mem_of_getElem? (i := 9) rfl)
theorem qw1266 : Cond.selects RX1 yX1_addText yX1_addText ∈ lw_all := tt47_all _ (List.mem_of_getElem? (i := 10) rfl)
theorem qw1267 : Cond.code yX1_addText cX1_addText 3 (Option.none : Option Jvm.ClassFile.FieldType) ∈ lw_all := tt47_all _ (List.mem_of_getElem? (i := 11) rfl)
theorem qw1268 : Cond.methodLink RX1 29 yJ0_length_8abf5 ∈ lw_all := tt47_all _ (List.mem_of_getElem? (i := 12) rfl)
theorem qw1269 : Cond.methodLink RX1 34 yJ0_charAt_5068e ∈ lw_all := tt47_all _ (List.mem_of_getElem? (i := 13) rfl)
theorem qw1270 : Cond.methodLink RX6 80 yX6_writeNumber ∈ lw_all := tt47_all _ (List.mem_of_getElem? (i := 14) rfl)
theorem qw1272 : Cond.instanceMethod yX6_writeNumber ∈ lw_all := tt47_all _ (List.mem_of_getElem? (i := 15) rfl)
theorem qw1273 : Cond.code yX6_writeNumber cX6_writeNumber 2 (Option.none : Option Jvm.ClassFile.FieldType) ∈ lw_all := tt47_all _ (List.mem_of_getElem? (i := 16) rfl)
theorem qw1274 : Cond.methodLink RX6 103 yX1_addNumber ∈ lw_all := tt47_all _ (List.mem_of_getElem? (i := 17) rfl)
theorem qw1275 : Cond.instanceMethod yX1_addNumber ∈ lw_all := tt47_all _ (List.mem_of_getElem? (i := 18) rfl)
theorem qw1276 : Cond.selects RX1 yX1_addNumber yX1_addNumber ∈ lw_all := tt47_all _ (List.mem_of_getElem? (i := 19) rfl)
theorem qw1277 : Cond.code yX1_addNumber cX1_addNumber 7 (Option.none : Option Jvm.ClassFile.FieldType) ∈ lw_all := tt47_all _ (List.mem_of_getElem? (i := 20) rfl)
theorem qw1278 : Cond.constantLong RX1 40 (10 : Int64) ∈ lw_all := tt47_all _ (List.mem_of_getElem? (i := 21) rfl)
theorem qw1279 : Cond.constantLong RX1 42 (48 : Int64) ∈ lw_all := tt47_all _ (List.mem_of_getElem? (i := 22) rfl)
theorem qw1280 : Cond.methodLink RX6 53 yX2_isAtSea ∈ lw_all := tt47_all _ (List.mem_of_getElem? (i := 23) rfl)
theorem qw1282 : Cond.methodLink RL 203 yX11_viewByte ∈ lw_all := tt47_all _ (List.mem_of_getElem? (i := 24) rfl)
theorem qw1283 : Cond.instanceMethod yX11_viewByte ∈ lw_all := tt48_all _ (List.mem_of_getElem? (i := 0) rfl)
theorem qw1284 : Cond.selects RX11 yX11_viewByte yX11_viewByte ∈ lw_all := tt48_all _ (List.mem_of_getElem? (i := 1) rfl)
theorem qw1285 : Cond.code yX11_viewByte cX11_viewByte 2 (Option.some Jvm.ClassFile.FieldType.int) ∈ lw_all := tt48_all _ (List.mem_of_getElem? (i := 2) rfl)
theorem qw1286 : Cond.methodLink RX11 373 yX1_at ∈ lw_all := tt48_all _ (List.mem_of_getElem? (i := 3) rfl)
theorem qw1287 : Cond.methodLink RL 207 yX11_storyLength ∈ lw_all := tt48_all _ (List.mem_of_getElem? (i := 4) rfl)
theorem qw1288 : Cond.instanceMethod yX11_storyLength ∈ lw_all := tt48_all _ (List.mem_of_getElem? (i := 5) rfl)
theorem qw1289 : Cond.selects RX11 yX11_storyLength yX11_storyLength ∈ lw_all := tt48_all _ (List.mem_of_getElem? (i := 6) rfl)
theorem qw1290 : Cond.code yX11_storyLength cX11_storyLength 1 (Option.some Jvm.ClassFile.FieldType.int) ∈ lw_all := tt48_all _ (List.mem_of_getElem? (i := 7) rfl)
theorem qw1291 : Cond.methodLink RX11 376 yX6_writeStory ∈ lw_all := tt48_all _ (List.mem_of_getElem? (i := 8) rfl)
theorem qw1292 : Cond.instanceMethod yX6_writeStory ∈ lw_all := tt48_all _ (List.mem_of_getElem? (i := 9) rfl)
theorem qw1293 : Cond.selects RX6 yX6_writeStory yX6_writeStory ∈ lw_all := tt48_all _ (List.mem_of_getElem? (i := 10) rfl)
theorem qw1294 : Cond.code yX6_writeStory cX6_writeStory 4 (Option.some (Jvm.ClassFile.FieldType.object "StickVotes$Bytes")) ∈ lw_all := tt48_all _ (List.mem_of_getElem? (i := 11) rfl)
theorem qw1295 : Cond.methodLink RX6 91 yX5_size ∈ lw_all := tt48_all _ (List.mem_of_getElem? (i := 12) rfl)
theorem qw1296 : Cond.methodLink RX6 96 yX5_oldest ∈ lw_all := tt48_all _ (List.mem_of_getElem? (i := 13) rfl)
theorem qw1297 : Cond.methodLink RX6 99 yX5_part ∈ lw_all := tt48_all _ (List.mem_of_getElem? (i := 14) rfl)
theorem qw1298 : Cond.methodLink RX6 106 yX6_kindWord ∈ lw_all := tt48_all _ (List.mem_of_getElem? (i := 15) rfl)
theorem qw1299 : Cond.static yX6_kindWord ∈ lw_all := tt48_all _ (List.mem_of_getElem? (i := 16) rfl)
theorem qw1300 : Cond.code yX6_kindWord cX6_kindWord 1 (Option.some (Jvm.ClassFile.FieldType.object "java/lang/String")) ∈ lw_all := tt48_all _ (List.mem_of_getElem? (i := 17) rfl)
theorem qw1307 : Cond.methodLink RL 211 yX11_storyByte ∈ lw_all := tt48_all _ (List.mem_of_getElem? (i := 18) rfl)
theorem qw1308 : Cond.instanceMethod yX11_storyByte ∈ lw_all := tt48_all _ (List.mem_of_getElem? (i := 19) rfl)
theorem qw1309 : Cond.selects RX11 yX11_storyByte yX11_storyByte ∈ lw_all := tt48_all _ (List.mem_of_getElem? (i := 20) rfl)
theorem qw1310 : Cond.code yX11_storyByte cX11_storyByte 2 (Option.some Jvm.ClassFile.FieldType.int) ∈ lw_all := tt48_all _ (List.mem_of_getElem? (i := 21) rfl)
theorem qw1311 : Cond.methodLink RL 215 yX11_setupLength ∈ lw_all := tt48_all _ (List.mem_of_getElem? (i := 22) rfl)
theorem qw1312 : Cond.instanceMethod yX11_setupLength ∈ lw_all := tt48_all _ (List.mem_of_getElem? (i := 23) rfl)
theorem qw1313 : Cond.selects RX11 yX11_setupLength yX11_setupLength ∈ lw_all := tt48_all _ (List.mem_of_getElem? (i := 24) rfl)
theorem qw1314 : Cond.code yX11_setupLength cX11_setupLength 1 (Option.some Jvm.ClassFile.FieldType.int) ∈ lw_all := tt49_all _ (List.mem_of_getElem? (i := 0) rfl)
theorem qw1315 : Cond.methodLink RX11 380 yX6_writeSetup ∈ lw_all := tt49_all _ (List.mem_of_getElem? (i := 1) rfl)
theorem qw1316 : Cond.instanceMethod yX6_writeSetup ∈ lw_all := tt49_all _ (List.mem_of_getElem? (i := 2) rfl)
theorem qw1317 : Cond.selects RX6 yX6_writeSetup yX6_writeSetup ∈ lw_all := tt49_all _ (List.mem_of_getElem? (i := 3) rfl)
theorem qw1318 : Cond.code yX6_writeSetup cX6_writeSetup 4 (Option.some (Jvm.ClassFile.FieldType.object "StickVotes$Bytes")) ∈ lw_all := tt49_all _ (List.mem_of_getElem? (i := 4) rfl)
theorem qw1319 : Cond.methodLink RX6 121 yX6_writeNumbers ∈ lw_all := tt49_all _ (List.mem_of_getElem? (i := 5) rfl)
theorem qw1321 : Cond.instanceMethod yX6_writeNumbers ∈ lw_all := tt49_all _ (List.mem_of_getElem? (i := 6) rfl)
theorem qw1322 : Cond.code yX6_writeNumbers cX6_writeNumbers 3 (Option.none : Option Jvm.ClassFile.FieldType) ∈ lw_all := tt49_all _ (List.mem_of_getElem? (i := 7) rfl)
theorem qw1324 : Cond.methodLink RX6 139 yX7_numberOf ∈ lw_all := tt49_all _ (List.mem_of_getElem? (i := 8) rfl)
theorem qw1331 : Cond.methodLink RX6 125 yX7_boats ∈ lw_all := tt49_all _ (List.mem_of_getElem? (i := 9) rfl)
theorem qw1333 : Cond.methodLink RX6 130 yX7_boatName ∈ lw_all := tt49_all _ (List.mem_of_getElem? (i := 10) rfl)
theorem qw1334 : Cond.instanceMethod yX7_boatName ∈ lw_all := tt49_all _ (List.mem_of_getElem? (i := 11) rfl)
theorem qw1335 : Cond.selects RX7 yX7_boatName yX7_boatName ∈ lw_all := tt49_all _ (List.mem_of_getElem? (i := 12) rfl)
theorem qw1336 : Cond.code yX7_boatName cX7_boatName 2 (Option.some Jvm.ClassFile.FieldType.int) ∈ lw_all := tt49_all _ (List.mem_of_getElem? (i := 13) rfl)
theorem qw1337 : Cond.methodLink RX6 133 yX6_writePerson ∈ lw_all := tt49_all _ (List.mem_of_getElem? (i := 14) rfl)
theorem qw1339 : Cond.instanceMethod yX6_writePerson ∈ lw_all := tt49_all _ (List.mem_of_getElem? (i := 15) rfl)
theorem qw1340 : Cond.code yX6_writePerson cX6_writePerson 5 (Option.none : Option Jvm.ClassFile.FieldType) ∈ lw_all := tt49_all _ (List.mem_of_getElem? (i := 16) rfl)
theorem qw1341 : Cond.methodLink RX6 154 yX2_boatOf ∈ lw_all := tt49_all _ (List.mem_of_getElem? (i := 17) rfl)
theorem qw1344 : Cond.methodLink RL 219 yX11_setupByte ∈ lw_all := tt49_all _ (List.mem_of_getElem? (i := 18) rfl)
theorem qw1345 : Cond.instanceMethod yX11_setupByte ∈ lw_all := tt49_all _ (List.mem_of_getElem? (i := 19) rfl)
theorem qw1346 : Cond.selects RX11 yX11_setupByte yX11_setupByte ∈ lw_all := tt49_all _ (List.mem_of_getElem? (i := 20) rfl)
theorem qw1347 : Cond.code yX11_setupByte cX11_setupByte 2 (Option.some Jvm.ClassFile.FieldType.int) ∈ lw_all := tt49_all _ (List.mem_of_getElem? (i := 21) rfl)
theorem qw1348 : Cond.methodLink RL 223 yX11_tapeLength ∈ lw_all := tt49_all _ (List.mem_of_getElem? (i := 22) rfl)
theorem qw1349 : Cond.instanceMethod yX11_tapeLength ∈ lw_all := tt49_all _ (List.mem_of_getElem? (i := 23) rfl)
theorem qw1350 : Cond.selects RX11 yX11_tapeLength yX11_tapeLength ∈ lw_all := tt49_all _ (List.mem_of_getElem? (i := 24) rfl)
theorem qw1351 : Cond.code yX11_tapeLength cX11_tapeLength 1 (Option.some Jvm.ClassFile.FieldType.int) ∈ lw_all := tt50_all _ (List.mem_of_getElem? (i := 0) rfl)
theorem qw1352 : Cond.classLink RL 10 RX12 ∈ lw_all := tt50_all _ (List.mem_of_getElem? (i := 1) rfl)
theorem qw1353 : Cond.instantiable RX12 30 ∈ lw_all := tt50_all _ (List.mem_of_getElem? (i := 2) rfl)
theorem qw1354 : Cond.methodLink RL 12 yX12_init ∈ lw_all := tt50_all _ (List.mem_of_getElem? (i := 3) rfl)
theorem qw1355 : Cond.instanceMethod yX12_init ∈ lw_all := tt50_all _ (List.mem_of_getElem? (i := 4) rfl)
theorem qw1356 : Cond.code yX12_init cX12_init 2 (Option.none : Option Jvm.ClassFile.FieldType) ∈ lw_all := tt50_all _ (List.mem_of_getElem? (i := 5) rfl)
theorem qw1357 : Cond.methodLink RX12 1 objectInit ∈ lw_all := tt50_all _ (List.mem_of_getElem? (i := 6) rfl)
theorem qw1358 : Cond.methodLink RX12 58 yX12_clear ∈ lw_all := tt50_all _ (List.mem_of_getElem? (i := 7) rfl)
theorem qw1360 : Cond.instanceMethod yX12_clear ∈ lw_all := tt50_all _ (List.mem_of_getElem? (i := 8) rfl)
theorem qw1361 : Cond.code yX12_clear cX12_clear 2 (Option.none : Option Jvm.ClassFile.FieldType) ∈ lw_all := tt50_all _ (List.mem_of_getElem? (i := 9) rfl)
theorem qw1362 : Cond.methodLink RX12 61 yX12_sets ∈ lw_all := tt50_all _ (List.mem_of_getElem? (i := 10) rfl)
theorem qw1364 : Cond.instanceMethod yX12_sets ∈ lw_all := tt50_all _ (List.mem_of_getElem? (i := 11) rfl)
theorem qw1365 : Cond.code yX12_sets cX12_sets 4 (Option.none : Option Jvm.ClassFile.FieldType) ∈ lw_all := tt50_all _ (List.mem_of_getElem? (i := 12) rfl)
theorem qw1366 : Cond.methodLink RX12 65 yX12_atHand ∈ lw_all := tt50_all _ (List.mem_of_getElem? (i := 13) rfl)
theorem qw1368 : Cond.instanceMethod yX12_atHand ∈ lw_all := tt50_all _ (List.mem_of_getElem? (i := 14) rfl)
theorem qw1369 : Cond.code yX12_atHand cX12_atHand 2 (Option.none : Option Jvm.ClassFile.FieldType) ∈ lw_all := tt50_all _ (List.mem_of_getElem? (i := 15) rfl)
theorem qw1370 : Cond.methodLink RX12 88 yX12_isLaidNoMore ∈ lw_all := tt50_all _ (List.mem_of_getElem? (i := 16) rfl)
theorem qw1372 : Cond.instanceMethod yX12_isLaidNoMore ∈ lw_all := tt50_all _ (List.mem_of_getElem? (i := 17) rfl)
theorem qw1373 : Cond.code yX12_isLaidNoMore cX12_isLaidNoMore 2 (Option.none : Option Jvm.ClassFile.FieldType) ∈ lw_all := tt50_all _ (List.mem_of_getElem? (i := 18) rfl)
theorem qw1374 : Cond.fieldLink RX12 7 "StickVotesModel" "tape" "[B" ∈ lw_all := tt50_all _ (List.mem_of_getElem? (i := 19) rfl)
theorem qw1375 : Cond.fieldLink RX12 156 "StickVotesModel" "taped" "I" ∈ lw_all := tt50_all _ (List.mem_of_getElem? (i := 20) rfl)
theorem qw1376 : Cond.fieldLink RX12 13 "StickVotesModel" "errorAt" "I" ∈ lw_all := tt50_all _ (List.mem_of_getElem? (i := 21) rfl)
theorem qw1377 : Cond.fieldLink RX12 17 "StickVotesModel" "numbers" "[I" ∈ lw_all := tt50_all _ (List.mem_of_getElem? (i := 22) rfl)
theorem qw1378 : Cond.fieldLink RX12 55 "StickVotesModel" "people" "I" ∈ lw_all := tt50_all _ (List.mem_of_getElem? (i := 23) rfl)
theorem qw1379 : Cond.fieldLink RX12 76 "StickVotesModel" "boats" "I" ∈ lw_all := tt50_all _ (List.mem_of_getElem? (i := 24) rfl)
theorem qw1380 : Cond.fieldLink RX12 21 "StickVotesModel" "names" "[I" ∈ lw_all := tt51_all _ (List.mem_of_getElem? (i := 0) rfl)
theorem qw1381 : Cond.fieldLink RX12 24 "StickVotesModel" "firstBoat" "[I" ∈ lw_all := tt51_all _ (List.mem_of_getElem? (i := 1) rfl)
theorem qw1382 : Cond.fieldLink RX12 27 "StickVotesModel" "boatNames" "[I" ∈ lw_all := tt51_all _ (List.mem_of_getElem? (i := 2) rfl)
theorem qw1383 : Cond.fieldLink RX12 30 "StickVotesModel" "world" "[I" ∈ lw_all := tt51_all _ (List.mem_of_getElem? (i := 3) rfl)
theorem qw1384 : Cond.fieldLink RX12 33 "StickVotesModel" "undone" "[I" ∈ lw_all := tt51_all _ (List.mem_of_getElem? (i := 4) rfl)
theorem qw1385 : Cond.fieldLink RX12 36 "StickVotesModel" "slots" "[I" ∈ lw_all := tt51_all _ (List.mem_of_getElem? (i := 5) rfl)
theorem qw1386 : Cond.fieldLink RX12 39 "StickVotesModel" "isKept" "[Z" ∈ lw_all := tt51_all _ (List.mem_of_getElem? (i := 6) rfl)
theorem qw1387 : Cond.fieldLink RX12 69 "StickVotesModel" "undos" "I" ∈ lw_all := tt51_all _ (List.mem_of_getElem? (i := 7) rfl)
theorem qw1388 : Cond.fieldLink RX12 153 "StickVotesModel" "readAt" "I" ∈ lw_all := tt51_all _ (List.mem_of_getElem? (i := 8) rfl)
theorem qw1389 : Cond.fieldLink RX12 190 "StickVotesModel" "start" "I" ∈ lw_all := tt51_all _ (List.mem_of_getElem? (i := 9) rfl)
theorem qw1390 : Cond.fieldLink RX12 199 "StickVotesModel" "kind" "I" ∈ lw_all := tt51_all _ (List.mem_of_getElem? (i := 10) rfl)
theorem qw1391 : Cond.fieldLink RX12 179 "StickVotesModel" "word" "J" ∈ lw_all := tt51_all _ (List.mem_of_getElem? (i := 11) rfl)
theorem qw1392 : Cond.fieldLink RX12 202 "StickVotesModel" "value" "I" ∈ lw_all := tt51_all _ (List.mem_of_getElem? (i := 12) rfl)
theorem qw1393 : Cond.fieldLink RX12 183 "StickVotesModel" "letters" "I" ∈ lw_all := tt51_all _ (List.mem_of_getElem? (i := 13) rfl)
theorem qw1394 : Cond.fieldLink RX12 211 "StickVotesModel" "fine" "Z" ∈ lw_all := tt51_all _ (List.mem_of_getElem? (i := 14) rfl)
theorem qw1395 : Cond.fieldLink RX12 239 "StickVotesModel" "newPeople" "I" ∈ lw_all := tt51_all _ (List.mem_of_getElem? (i := 15) rfl)
theorem qw1396 : Cond.fieldLink RX12 232 "StickVotesModel" "newBoats" "I" ∈ lw_all := tt51_all _ (List.mem_of_getElem? (i := 16) rfl)
theorem qw1397 : Cond.fieldLink RX12 43 "StickVotesModel" "newNumbers" "[I" ∈ lw_all := tt51_all _ (List.mem_of_getElem? (i := 17) rfl)
theorem qw1398 : Cond.fieldLink RX12 46 "StickVotesModel" "newNames" "[I" ∈ lw_all := tt51_all _ (List.mem_of_getElem? (i := 18) rfl)
theorem qw1399 : Cond.fieldLink RX12 49 "StickVotesModel" "newBoatOf" "[I" ∈ lw_all := tt51_all _ (List.mem_of_getElem? (i := 19) rfl)
theorem qw1400 : Cond.fieldLink RX12 52 "StickVotesModel" "newBoatNames" "[I" ∈ lw_all := tt51_all _ (List.mem_of_getElem? (i := 20) rfl)
theorem qw1401 : Cond.fieldLink RX12 337 "StickVotesModel" "outs" "I" ∈ lw_all := tt51_all _ (List.mem_of_getElem? (i := 21) rfl)
theorem qw1402 : Cond.fieldLink RX12 340 "StickVotesModel" "wantedAt" "I" ∈ lw_all := tt51_all _ (List.mem_of_getElem? (i := 22) rfl)
theorem qw1403 : Cond.fieldLink RX12 343 "StickVotesModel" "foundByte" "I" ∈ lw_all := tt51_all _ (List.mem_of_getElem? (i := 23) rfl)
theorem qw1404 : Cond.laysFinal RX12 "StickVotesModel" "tape" "[B" ∈ lw_all := tt51_all _ (List.mem_of_getElem? (i := 24) rfl)
theorem qw1406 : Cond.lays RX12 "StickVotesModel" "taped" "I" ∈ lw_all := tt52_all _ (List.mem_of_getElem? (i := 0) rfl)
theorem qw1408 : Cond.lays RX12 "StickVotesModel" "errorAt" "I" ∈ lw_all := tt52_all _ (List.mem_of_getElem? (i := 1) rfl)
theorem qw1410 : Cond.laysFinal RX12 "StickVotesModel" "numbers" "[I" ∈ lw_all := tt52_all _ (List.mem_of_getElem? (i := 2) rfl)
theorem qw1412 : Cond.lays RX12 "StickVotesModel" "people" "I" ∈ lw_all := tt52_all _ (List.mem_of_getElem? (i := 3) rfl)
theorem qw1414 : Cond.lays RX12 "StickVotesModel" "boats" "I" ∈ lw_all := tt52_all _ (List.mem_of_getElem? (i := 4) rfl)
theorem qw1416 : Cond.laysFinal RX12 "StickVotesModel" "names" "[I" ∈ lw_all := tt52_all _ (List.mem_of_getElem? (i := 5) rfl)
theorem qw1418 : Cond.laysFinal RX12 "StickVotesModel" "firstBoat" "[I" ∈ lw_all := tt52_all _ (List.mem_of_getElem? (i := 6) rfl)
theorem qw1420 : Cond.laysFinal RX12 "StickVotesModel" "boatNames" "[I" ∈ lw_all := tt52_all _ (List.mem_of_getElem? (i := 7) rfl)
theorem qw1422 : Cond.laysFinal RX12 "StickVotesModel" "world" "[I" ∈ lw_all := tt52_all _ (List.mem_of_getElem? (i := 8) rfl)
theorem qw1424 : Cond.laysFinal RX12 "StickVotesModel" "undone" "[I" ∈ lw_all := tt52_all _ (List.mem_of_getElem? (i := 9) rfl)
theorem qw1426 : Cond.laysFinal RX12 "StickVotesModel" "slots" "[I" ∈ lw_all := tt52_all _ (List.mem_of_getElem? (i := 10) rfl)
theorem qw1428 : Cond.laysFinal RX12 "StickVotesModel" "isKept" "[Z" ∈ lw_all := tt52_all _ (List.mem_of_getElem? (i := 11) rfl)
theorem qw1430 : Cond.lays RX12 "StickVotesModel" "undos" "I" ∈ lw_all := tt52_all _ (List.mem_of_getElem? (i := 12) rfl)
theorem qw1432 : Cond.lays RX12 "StickVotesModel" "readAt" "I" ∈ lw_all := tt52_all _ (List.mem_of_getElem? (i := 13) rfl)
theorem qw1434 : Cond.lays RX12 "StickVotesModel" "start" "I" ∈ lw_all := tt52_all _ (List.mem_of_getElem? (i := 14) rfl)
theorem qw1436 : Cond.lays RX12 "StickVotesModel" "kind" "I" ∈ lw_all := tt52_all _ (List.mem_of_getElem? (i := 15) rfl)
theorem qw1438 : Cond.lays RX12 "StickVotesModel" "word" "J" ∈ lw_all := tt52_all _ (List.mem_of_getElem? (i := 16) rfl)
theorem qw1440 : Cond.lays RX12 "StickVotesModel" "value" "I" ∈ lw_all := tt53_all _ (List.mem_of_getElem? (i := 0) rfl)
theorem qw1442 : Cond.lays RX12 "StickVotesModel" "letters" "I" ∈ lw_all := tt53_all _ (List.mem_of_getElem? (i := 1) rfl)
theorem qw1444 : Cond.lays RX12 "StickVotesModel" "fine" "Z" ∈ lw_all := tt53_all _ (List.mem_of_getElem? (i := 2) rfl)
theorem qw1446 : Cond.lays RX12 "StickVotesModel" "newPeople" "I" ∈ lw_all := tt53_all _ (List.mem_of_getElem? (i := 3) rfl)
theorem qw1448 : Cond.lays RX12 "StickVotesModel" "newBoats" "I" ∈ lw_all := tt53_all _ (List.mem_of_getElem? (i := 4) rfl)
theorem qw1450 : Cond.laysFinal RX12 "StickVotesModel" "newNumbers" "[I" ∈ lw_all := tt53_all _ (List.mem_of_getElem? (i := 5) rfl)
theorem qw1452 : Cond.laysFinal RX12 "StickVotesModel" "newNames" "[I" ∈ lw_all := tt53_all _ (List.mem_of_getElem? (i := 6) rfl)
theorem qw1454 : Cond.laysFinal RX12 "StickVotesModel" "newBoatOf" "[I" ∈ lw_all := tt53_all _ (List.mem_of_getElem? (i := 7) rfl)
theorem qw1456 : Cond.laysFinal RX12 "StickVotesModel" "newBoatNames" "[I" ∈ lw_all := tt53_all _ (List.mem_of_getElem? (i := 8) rfl)
theorem qw1458 : Cond.lays RX12 "StickVotesModel" "outs" "I" ∈ lw_all := tt53_all _ (List.mem_of_getElem? (i := 9) rfl)
theorem qw1460 : Cond.lays RX12 "StickVotesModel" "wantedAt" "I" ∈ lw_all := tt53_all _ (List.mem_of_getElem? (i := 10) rfl)
theorem qw1462 : Cond.lays RX12 "StickVotesModel" "foundByte" "I" ∈ lw_all := tt53_all _ (List.mem_of_getElem? (i := 11) rfl)
theorem qw1465 : Cond.methodLink RL 17 yX12_append ∈ lw_all := tt53_all _ (List.mem_of_getElem? (i := 12) rfl)
theorem qw1466 : Cond.instanceMethod yX12_append ∈ lw_all := tt53_all _ (List.mem_of_getElem? (i := 13) rfl)
theorem qw1467 : Cond.selects RX12 yX12_append yX12_append ∈ lw_all := tt53_all _ (List.mem_of_getElem? (i := 14) rfl)
theorem qw1468 : Cond.code yX12_append cX12_append 6 (Option.some Jvm.ClassFile.FieldType.int) ∈ lw_all := tt53_all _ (List.mem_of_getElem? (i := 15) rfl)
theorem qw1469 : Cond.methodLink RX12 251 yX12_feeds ∈ lw_all := tt53_all _ (List.mem_of_getElem? (i := 16) rfl)
theorem qw1471 : Cond.instanceMethod yX12_feeds ∈ lw_all := tt53_all _ (List.mem_of_getElem? (i := 17) rfl)
theorem qw1472 : Cond.code yX12_feeds cX12_feeds 3 (Option.none : Option Jvm.ClassFile.FieldType) ∈ lw_all := tt53_all _ (List.mem_of_getElem? (i := 18) rfl)
theorem qw1473 : Cond.methodLink RL 22 yX12_truncate ∈ lw_all := tt53_all _ (List.mem_of_getElem? (i := 19) rfl)
theorem qw1474 : Cond.instanceMethod yX12_truncate ∈ lw_all := tt53_all _ (List.mem_of_getElem? (i := 20) rfl)
theorem qw1475 : Cond.selects RX12 yX12_truncate yX12_truncate ∈ lw_all := tt53_all _ (List.mem_of_getElem? (i := 21) rfl)
theorem qw1476 : Cond.code yX12_truncate cX12_truncate 2 (Option.some Jvm.ClassFile.FieldType.int) ∈ lw_all := tt53_all _ (List.mem_of_getElem? (i := 22) rfl)
theorem qw1477 : Cond.methodLink RX12 72 yX12_in ∈ lw_all := tt53_all _ (List.mem_of_getElem? (i := 23) rfl)
theorem qw1478 : Cond.static yX12_in ∈ lw_all := tt53_all _ (List.mem_of_getElem? (i := 24) rfl)
theorem qw1479 : Cond.code yX12_in cX12_in 6 (Option.some Jvm.ClassFile.FieldType.boolean) ∈ lw_all := tt54_all _ (List.mem_of_getElem? (i := 0) rfl)
theorem qw1480 : Cond.methodLink RL 27 yX12_load ∈ lw_all := tt54_all _ (List.mem_of_getElem? (i := 1) rfl)
theorem qw1481 : Cond.instanceMethod yX12_load ∈ lw_all := tt54_all _ (List.mem_of_getElem? (i := 2) rfl)
theorem qw1482 : Cond.selects RX12 yX12_load yX12_load ∈ lw_all := tt54_all _ (List.mem_of_getElem? (i := 3) rfl)
theorem qw1483 : Cond.code yX12_load cX12_load 2 (Option.some Jvm.ClassFile.FieldType.int) ∈ lw_all := tt54_all _ (List.mem_of_getElem? (i := 4) rfl)
theorem qw1484 : Cond.methodLink RX12 254 yX12_readAll ∈ lw_all := tt54_all _ (List.mem_of_getElem? (i := 5) rfl)
theorem qw1486 : Cond.instanceMethod yX12_readAll ∈ lw_all := tt54_all _ (List.mem_of_getElem? (i := 6) rfl)
theorem qw1487 : Cond.code yX12_readAll cX12_readAll 1 (Option.none : Option Jvm.ClassFile.FieldType) ∈ lw_all := tt54_all _ (List.mem_of_getElem? (i := 7) rfl)
theorem qw1488 : Cond.methodLink RX12 215 yX12_next ∈ lw_all := tt54_all _ (List.mem_of_getElem? (i := 8) rfl)
theorem qw1490 : Cond.instanceMethod yX12_next ∈ lw_all := tt54_all _ (List.mem_of_getElem? (i := 9) rfl)
theorem qw1491 : Cond.code yX12_next cX12_next 1 (Option.none : Option Jvm.ClassFile.FieldType) ∈ lw_all := tt54_all _ (List.mem_of_getElem? (i := 10) rfl)
theorem qw1492 : Cond.methodLink RX12 186 yX12_isByte ∈ lw_all := tt54_all _ (List.mem_of_getElem? (i := 11) rfl)
theorem qw1494 : Cond.instanceMethod yX12_isByte ∈ lw_all := tt54_all _ (List.mem_of_getElem? (i := 12) rfl)
theorem qw1495 : Cond.code yX12_isByte cX12_isByte 3 (Option.some Jvm.ClassFile.FieldType.boolean) ∈ lw_all := tt54_all _ (List.mem_of_getElem? (i := 13) rfl)
theorem qw1496 : Cond.methodLink RX12 205 yX12_nextWord ∈ lw_all := tt54_all _ (List.mem_of_getElem? (i := 14) rfl)
theorem qw1498 : Cond.instanceMethod yX12_nextWord ∈ lw_all := tt54_all _ (List.mem_of_getElem? (i := 15) rfl)
theorem qw1499 : Cond.code yX12_nextWord cX12_nextWord 3 (Option.none : Option Jvm.ClassFile.FieldType) ∈ lw_all := tt54_all _ (List.mem_of_getElem? (i := 16) rfl)
theorem qw1500 : Cond.constantLong RX12 193 (32 : Int64) ∈ lw_all := tt54_all _ (List.mem_of_getElem? (i := 17) rfl)
theorem qw1501 : Cond.methodLink RX12 195 yX12_isKey ∈ lw_all := tt54_all _ (List.mem_of_getElem? (i := 18) rfl)
theorem qw1502 : Cond.static yX12_isKey ∈ lw_all := tt54_all _ (List.mem_of_getElem? (i := 19) rfl)
theorem qw1503 : Cond.code yX12_isKey cX12_isKey 2 (Option.some Jvm.ClassFile.FieldType.boolean) ∈ lw_all := tt54_all _ (List.mem_of_getElem? (i := 20) rfl)
theorem qw1504 : Cond.constantLong RX12 159 (642829806 : Int64) ∈ lw_all := tt54_all _ (List.mem_of_getElem? (i := 21) rfl)
theorem qw1505 : Cond.constantLong RX12 161 (645974195 : Int64) ∈ lw_all := tt54_all _ (List.mem_of_getElem? (i := 22) rfl)
theorem qw1506 : Cond.constantLong RX12 163 (398963 : Int64) ∈ lw_all := tt54_all _ (List.mem_of_getElem? (i := 23) rfl)
theorem qw1507 : Cond.constantLong RX12 165 (12748404 : Int64) ∈ lw_all := tt54_all _ (List.mem_of_getElem? (i := 24) rfl)
theorem qw1508 : Cond.constantLong RX12 167 (3197529 : Int64) ∈ lw_all := tt55_all _ (List.mem_of_getElem? (i := 0) rfl)
theorem qw1509 : Cond.constantLong RX12 169 (50861100 : Int64) ∈ lw_all := tt55_all _ (List.mem_of_getElem? (i := 1) rfl)
theorem qw1510 : Cond.constantLong RX12 171 (623961094803 : Int64) ∈ lw_all := tt55_all _ (List.mem_of_getElem? (i := 2) rfl)
theorem qw1511 : Cond.constantLong RX12 173 (80948 : Int64) ∈ lw_all := tt55_all _ (List.mem_of_getElem? (i := 3) rfl)
theorem qw1512 : Cond.constantLong RX12 175 (542723566 : Int64) ∈ lw_all := tt55_all _ (List.mem_of_getElem? (i := 4) rfl)
theorem qw1513 : Cond.constantLong RX12 177 (486 : Int64) ∈ lw_all := tt55_all _ (List.mem_of_getElem? (i := 5) rfl)
theorem qw1514 : Cond.methodLink RX12 208 yX12_nextInt ∈ lw_all := tt55_all _ (List.mem_of_getElem? (i := 6) rfl)
theorem qw1516 : Cond.instanceMethod yX12_nextInt ∈ lw_all := tt55_all _ (List.mem_of_getElem? (i := 7) rfl)
theorem qw1517 : Cond.code yX12_nextInt cX12_nextInt 1 (Option.none : Option Jvm.ClassFile.FieldType) ∈ lw_all := tt55_all _ (List.mem_of_getElem? (i := 8) rfl)
theorem qw1518 : Cond.methodLink RX12 242 yX12_readNumbers ∈ lw_all := tt55_all _ (List.mem_of_getElem? (i := 9) rfl)
theorem qw1520 : Cond.instanceMethod yX12_readNumbers ∈ lw_all := tt55_all _ (List.mem_of_getElem? (i := 10) rfl)
theorem qw1521 : Cond.code yX12_readNumbers cX12_readNumbers 2 (Option.none : Option Jvm.ClassFile.FieldType) ∈ lw_all := tt55_all _ (List.mem_of_getElem? (i := 11) rfl)
theorem qw1522 : Cond.methodLink RX12 228 yX12_numberOf ∈ lw_all := tt55_all _ (List.mem_of_getElem? (i := 12) rfl)
theorem qw1524 : Cond.instanceMethod yX12_numberOf ∈ lw_all := tt55_all _ (List.mem_of_getElem? (i := 13) rfl)
theorem qw1525 : Cond.code yX12_numberOf cX12_numberOf 5 (Option.some Jvm.ClassFile.FieldType.int) ∈ lw_all := tt55_all _ (List.mem_of_getElem? (i := 14) rfl)
theorem qw1526 : Cond.methodLink RX12 222 yX12_isWord ∈ lw_all := tt55_all _ (List.mem_of_getElem? (i := 15) rfl)
theorem qw1528 : Cond.instanceMethod yX12_isWord ∈ lw_all := tt55_all _ (List.mem_of_getElem? (i := 16) rfl)
theorem qw1529 : Cond.code yX12_isWord cX12_isWord 3 (Option.some Jvm.ClassFile.FieldType.boolean) ∈ lw_all := tt55_all _ (List.mem_of_getElem? (i := 17) rfl)
theorem qw1530 : Cond.methodLink RX12 218 yX12_takes ∈ lw_all := tt55_all _ (List.mem_of_getElem? (i := 18) rfl)
theorem qw1532 : Cond.instanceMethod yX12_takes ∈ lw_all := tt55_all _ (List.mem_of_getElem? (i := 19) rfl)
theorem qw1533 : Cond.code yX12_takes cX12_takes 2 (Option.none : Option Jvm.ClassFile.FieldType) ∈ lw_all := tt55_all _ (List.mem_of_getElem? (i := 20) rfl)
theorem qw1534 : Cond.methodLink RX12 225 yX12_number ∈ lw_all := tt55_all _ (List.mem_of_getElem? (i := 21) rfl)
theorem qw1536 : Cond.instanceMethod yX12_number ∈ lw_all := tt55_all _ (List.mem_of_getElem? (i := 22) rfl)
theorem qw1537 : Cond.code yX12_number cX12_number 4 (Option.some Jvm.ClassFile.FieldType.int) ∈ lw_all := tt55_all _ (List.mem_of_getElem? (i := 23) rfl)
theorem qw1538 : Cond.methodLink RX12 245 yX12_readBoat ∈ lw_all := tt55_all _ (List.mem_of_getElem? (i := 24) rfl)
theorem qw1540 : Cond.instanceMethod yX12_readBoat ∈ lw_all := tt56_all _ (List.mem_of_getElem? (i := 0) rfl)
theorem qw1541 : Cond.code yX12_readBoat cX12_readBoat 3 (Option.none : Option Jvm.ClassFile.FieldType) ∈ lw_all := tt56_all _ (List.mem_of_getElem? (i := 1) rfl)
theorem qw1542 : Cond.methodLink RX12 235 yX12_named ∈ lw_all := tt56_all _ (List.mem_of_getElem? (i := 2) rfl)
theorem qw1544 : Cond.instanceMethod yX12_named ∈ lw_all := tt56_all _ (List.mem_of_getElem? (i := 3) rfl)
theorem qw1545 : Cond.code yX12_named cX12_named 4 (Option.some Jvm.ClassFile.FieldType.int) ∈ lw_all := tt56_all _ (List.mem_of_getElem? (i := 4) rfl)
theorem qw1546 : Cond.methodLink RX12 248 yX12_readPerson ∈ lw_all := tt56_all _ (List.mem_of_getElem? (i := 5) rfl)
theorem qw1548 : Cond.instanceMethod yX12_readPerson ∈ lw_all := tt56_all _ (List.mem_of_getElem? (i := 6) rfl)
theorem qw1549 : Cond.code yX12_readPerson cX12_readPerson 4 (Option.none : Option Jvm.ClassFile.FieldType) ∈ lw_all := tt56_all _ (List.mem_of_getElem? (i := 7) rfl)
theorem qw1550 : Cond.methodLink RL 31 yX12_errorPosition ∈ lw_all := tt56_all _ (List.mem_of_getElem? (i := 8) rfl)
theorem qw1551 : Cond.instanceMethod yX12_errorPosition ∈ lw_all := tt56_all _ (List.mem_of_getElem? (i := 9) rfl)
theorem qw1552 : Cond.selects RX12 yX12_errorPosition yX12_errorPosition ∈ lw_all := tt56_all _ (List.mem_of_getElem? (i := 10) rfl)
theorem qw1553 : Cond.code yX12_errorPosition cX12_errorPosition 1 (Option.some Jvm.ClassFile.FieldType.int) ∈ lw_all := tt56_all _ (List.mem_of_getElem? (i := 11) rfl)
theorem qw1554 : Cond.methodLink RL 93 yX12_undo ∈ lw_all := tt56_all _ (List.mem_of_getElem? (i := 12) rfl)
theorem qw1555 : Cond.instanceMethod yX12_undo ∈ lw_all := tt56_all _ (List.mem_of_getElem? (i := 13) rfl)
theorem qw1556 : Cond.selects RX12 yX12_undo yX12_undo ∈ lw_all := tt56_all _ (List.mem_of_getElem? (i := 14) rfl)
theorem qw1557 : Cond.code yX12_undo cX12_undo 2 (Option.some Jvm.ClassFile.FieldType.int) ∈ lw_all := tt56_all _ (List.mem_of_getElem? (i := 15) rfl)
theorem qw1558 : Cond.methodLink RL 36 yX12_sail ∈ lw_all := tt56_all _ (List.mem_of_getElem? (i := 16) rfl)
theorem qw1559 : Cond.instanceMethod yX12_sail ∈ lw_all := tt56_all _ (List.mem_of_getElem? (i := 17) rfl)
theorem qw1560 : Cond.selects RX12 yX12_sail yX12_sail ∈ lw_all := tt56_all _ (List.mem_of_getElem? (i := 18) rfl)
theorem qw1561 : Cond.code yX12_sail cX12_sail 5 (Option.some Jvm.ClassFile.FieldType.int) ∈ lw_all := tt56_all _ (List.mem_of_getElem? (i := 19) rfl)
theorem qw1562 : Cond.methodLink RX12 257 yX12_isBoat ∈ lw_all := tt56_all _ (List.mem_of_getElem? (i := 20) rfl)
theorem qw1564 : Cond.instanceMethod yX12_isBoat ∈ lw_all := tt56_all _ (List.mem_of_getElem? (i := 21) rfl)
theorem qw1565 : Cond.code yX12_isBoat cX12_isBoat 2 (Option.some Jvm.ClassFile.FieldType.boolean) ∈ lw_all := tt56_all _ (List.mem_of_getElem? (i := 22) rfl)
theorem qw1566 : Cond.constantLong RX12 260 (99 : Int64) ∈ lw_all := tt56_all _ (List.mem_of_getElem? (i := 23) rfl)
theorem qw1567 : Cond.methodLink RX12 106 yX12_isOut ∈ lw_all := tt56_all _ (List.mem_of_getElem? (i := 24) rfl)
theorem qw1569 : Cond.instanceMethod yX12_isOut ∈ lw_all := tt57_all _ (List.mem_of_getElem? (i := 0) rfl)
theorem qw1570 : Cond.code yX12_isOut cX12_isOut 2 (Option.some Jvm.ClassFile.FieldType.boolean) ∈ lw_all := tt57_all _ (List.mem_of_getElem? (i := 1) rfl)
theorem qw1571 : Cond.methodLink RX12 85 yX12_ofBoat ∈ lw_all := tt57_all _ (List.mem_of_getElem? (i := 2) rfl)
theorem qw1573 : Cond.instanceMethod yX12_ofBoat ∈ lw_all := tt57_all _ (List.mem_of_getElem? (i := 3) rfl)
theorem qw1574 : Cond.code yX12_ofBoat cX12_ofBoat 3 (Option.some Jvm.ClassFile.FieldType.int) ∈ lw_all := tt57_all _ (List.mem_of_getElem? (i := 4) rfl)
theorem qw1575 : Cond.methodLink RX12 262 yX12_keeps ∈ lw_all := tt57_all _ (List.mem_of_getElem? (i := 5) rfl)
theorem qw1577 : Cond.instanceMethod yX12_keeps ∈ lw_all := tt57_all _ (List.mem_of_getElem? (i := 6) rfl)
theorem qw1578 : Cond.code yX12_keeps cX12_keeps 2 (Option.none : Option Jvm.ClassFile.FieldType) ∈ lw_all := tt57_all _ (List.mem_of_getElem? (i := 7) rfl)
theorem qw1579 : Cond.methodLink RX12 81 yX12_of ∈ lw_all := tt57_all _ (List.mem_of_getElem? (i := 8) rfl)
theorem qw1581 : Cond.instanceMethod yX12_of ∈ lw_all := tt57_all _ (List.mem_of_getElem? (i := 9) rfl)
theorem qw1582 : Cond.code yX12_of cX12_of 3 (Option.some Jvm.ClassFile.FieldType.int) ∈ lw_all := tt57_all _ (List.mem_of_getElem? (i := 10) rfl)
theorem qw1583 : Cond.methodLink RX12 91 yX12_isAtSea ∈ lw_all := tt57_all _ (List.mem_of_getElem? (i := 11) rfl)
theorem qw1585 : Cond.instanceMethod yX12_isAtSea ∈ lw_all := tt57_all _ (List.mem_of_getElem? (i := 12) rfl)
theorem qw1586 : Cond.code yX12_isAtSea cX12_isAtSea 2 (Option.some Jvm.ClassFile.FieldType.boolean) ∈ lw_all := tt57_all _ (List.mem_of_getElem? (i := 13) rfl)
theorem qw1587 : Cond.methodLink RX12 147 yX12_setsBoat ∈ lw_all := tt57_all _ (List.mem_of_getElem? (i := 14) rfl)
theorem qw1589 : Cond.instanceMethod yX12_setsBoat ∈ lw_all := tt57_all _ (List.mem_of_getElem? (i := 15) rfl)
theorem qw1590 : Cond.code yX12_setsBoat cX12_setsBoat 4 (Option.none : Option Jvm.ClassFile.FieldType) ∈ lw_all := tt57_all _ (List.mem_of_getElem? (i := 16) rfl)
theorem qw1591 : Cond.methodLink RX12 138 yX12_tells ∈ lw_all := tt57_all _ (List.mem_of_getElem? (i := 17) rfl)
theorem qw1593 : Cond.instanceMethod yX12_tells ∈ lw_all := tt57_all _ (List.mem_of_getElem? (i := 18) rfl)
theorem qw1594 : Cond.code yX12_tells cX12_tells 5 (Option.none : Option Jvm.ClassFile.FieldType) ∈ lw_all := tt57_all _ (List.mem_of_getElem? (i := 19) rfl)
theorem qw1595 : Cond.methodLink RL 40 yX12_delay ∈ lw_all := tt57_all _ (List.mem_of_getElem? (i := 20) rfl)
theorem qw1596 : Cond.instanceMethod yX12_delay ∈ lw_all := tt57_all _ (List.mem_of_getElem? (i := 21) rfl)
theorem qw1597 : Cond.selects RX12 yX12_delay yX12_delay ∈ lw_all := tt57_all _ (List.mem_of_getElem? (i := 22) rfl)
theorem qw1598 : Cond.code yX12_delay cX12_delay 3 (Option.some Jvm.ClassFile.FieldType.int) ∈ lw_all := tt57_all _ (List.mem_of_getElem? (i := 23) rfl)
theorem qw1599 : Cond.methodLink RL 44 yX12_comeHome ∈ lw_all := tt57_all _ (List.mem_of_getElem? (i := 24) rfl)
theorem qw1600 : Cond.instanceMethod yX12_comeHome ∈ lw_all := tt58_all _ (List.mem_of_getElem? (i := 0) rfl)
theorem qw1601 : Cond.selects RX12 yX12_comeHome yX12_comeHome ∈ lw_all := tt58_all _ (List.mem_of_getElem? (i := 1) rfl)
theorem qw1602 : Cond.code yX12_comeHome cX12_comeHome 2 (Option.some Jvm.ClassFile.FieldType.int) ∈ lw_all := tt58_all _ (List.mem_of_getElem? (i := 2) rfl)
theorem qw1603 : Cond.methodLink RX12 150 yX12_comesHome ∈ lw_all := tt58_all _ (List.mem_of_getElem? (i := 3) rfl)
theorem qw1605 : Cond.instanceMethod yX12_comesHome ∈ lw_all := tt58_all _ (List.mem_of_getElem? (i := 4) rfl)
theorem qw1606 : Cond.code yX12_comesHome cX12_comesHome 4 (Option.some Jvm.ClassFile.FieldType.int) ∈ lw_all := tt58_all _ (List.mem_of_getElem? (i := 5) rfl)
theorem qw1607 : Cond.methodLink RL 48 yX12_join ∈ lw_all := tt58_all _ (List.mem_of_getElem? (i := 6) rfl)
theorem qw1608 : Cond.instanceMethod yX12_join ∈ lw_all := tt58_all _ (List.mem_of_getElem? (i := 7) rfl)
theorem qw1609 : Cond.selects RX12 yX12_join yX12_join ∈ lw_all := tt58_all _ (List.mem_of_getElem? (i := 8) rfl)
theorem qw1610 : Cond.code yX12_join cX12_join 4 (Option.some Jvm.ClassFile.FieldType.int) ∈ lw_all := tt58_all _ (List.mem_of_getElem? (i := 9) rfl)
theorem qw1611 : Cond.methodLink RX12 265 yX12_isPerson ∈ lw_all := tt58_all _ (List.mem_of_getElem? (i := 10) rfl)
theorem qw1613 : Cond.instanceMethod yX12_isPerson ∈ lw_all := tt58_all _ (List.mem_of_getElem? (i := 11) rfl)
theorem qw1614 : Cond.code yX12_isPerson cX12_isPerson 2 (Option.some Jvm.ClassFile.FieldType.boolean) ∈ lw_all := tt58_all _ (List.mem_of_getElem? (i := 12) rfl)
theorem qw1615 : Cond.methodLink RL 52 yX12_open ∈ lw_all := tt58_all _ (List.mem_of_getElem? (i := 13) rfl)
theorem qw1616 : Cond.instanceMethod yX12_open ∈ lw_all := tt58_all _ (List.mem_of_getElem? (i := 14) rfl)
theorem qw1617 : Cond.selects RX12 yX12_open yX12_open ∈ lw_all := tt58_all _ (List.mem_of_getElem? (i := 15) rfl)
theorem qw1618 : Cond.code yX12_open cX12_open 3 (Option.some Jvm.ClassFile.FieldType.int) ∈ lw_all := tt58_all _ (List.mem_of_getElem? (i := 16) rfl)
theorem qw1619 : Cond.constantLong RX12 271 (2 : Int64) ∈ lw_all := tt58_all _ (List.mem_of_getElem? (i := 17) rfl)
theorem qw1620 : Cond.constantLong RX12 273 (4 : Int64) ∈ lw_all := tt58_all _ (List.mem_of_getElem? (i := 18) rfl)
theorem qw1621 : Cond.methodLink RX12 115 yX12_isOpen ∈ lw_all := tt58_all _ (List.mem_of_getElem? (i := 19) rfl)
theorem qw1623 : Cond.instanceMethod yX12_isOpen ∈ lw_all := tt58_all _ (List.mem_of_getElem? (i := 20) rfl)
theorem qw1624 : Cond.code yX12_isOpen cX12_isOpen 1 (Option.some Jvm.ClassFile.FieldType.boolean) ∈ lw_all := tt58_all _ (List.mem_of_getElem? (i := 21) rfl)
theorem qw1625 : Cond.methodLink RX12 275 yX12_isBackFromVote ∈ lw_all := tt58_all _ (List.mem_of_getElem? (i := 22) rfl)
theorem qw1627 : Cond.instanceMethod yX12_isBackFromVote ∈ lw_all := tt58_all _ (List.mem_of_getElem? (i := 23) rfl)
theorem qw1628 : Cond.code yX12_isBackFromVote cX12_isBackFromVote 2 (Option.none : Option Jvm.ClassFile.FieldType) ∈ lw_all := tt58_all _ (List.mem_of_getElem? (i := 24) rfl)
theorem qw1629 : Cond.methodLink RX12 268 yX12_isLaid ∈ lw_all := tt59_all _ (List.mem_of_getElem? (i := 0) rfl)
theorem qw1631 : Cond.instanceMethod yX12_isLaid ∈ lw_all := tt59_all _ (List.mem_of_getElem? (i := 1) rfl)
theorem qw1632 : Cond.code yX12_isLaid cX12_isLaid 2 (Option.some Jvm.ClassFile.FieldType.boolean) ∈ lw_all := tt59_all _ (List.mem_of_getElem? (i := 2) rfl)
theorem qw1633 : Cond.methodLink RL 57 yX12_give ∈ lw_all := tt59_all _ (List.mem_of_getElem? (i := 3) rfl)
theorem qw1634 : Cond.instanceMethod yX12_give ∈ lw_all := tt59_all _ (List.mem_of_getElem? (i := 4) rfl)
theorem qw1635 : Cond.selects RX12 yX12_give yX12_give ∈ lw_all := tt59_all _ (List.mem_of_getElem? (i := 5) rfl)
theorem qw1636 : Cond.code yX12_give cX12_give 4 (Option.some Jvm.ClassFile.FieldType.int) ∈ lw_all := tt59_all _ (List.mem_of_getElem? (i := 6) rfl)
theorem qw1637 : Cond.methodLink RX12 278 yX12_isBasket ∈ lw_all := tt59_all _ (List.mem_of_getElem? (i := 7) rfl)
theorem qw1638 : Cond.static yX12_isBasket ∈ lw_all := tt59_all _ (List.mem_of_getElem? (i := 8) rfl)
theorem qw1639 : Cond.code yX12_isBasket cX12_isBasket 1 (Option.some Jvm.ClassFile.FieldType.boolean) ∈ lw_all := tt59_all _ (List.mem_of_getElem? (i := 9) rfl)
theorem qw1640 : Cond.constantLong RX12 79 (3 : Int64) ∈ lw_all := tt59_all _ (List.mem_of_getElem? (i := 10) rfl)
theorem qw1641 : Cond.methodLink RX12 281 yX12_carriedBy ∈ lw_all := tt59_all _ (List.mem_of_getElem? (i := 11) rfl)
theorem qw1643 : Cond.instanceMethod yX12_carriedBy ∈ lw_all := tt59_all _ (List.mem_of_getElem? (i := 12) rfl)
theorem qw1644 : Cond.code yX12_carriedBy cX12_carriedBy 4 (Option.some Jvm.ClassFile.FieldType.int) ∈ lw_all := tt59_all _ (List.mem_of_getElem? (i := 13) rfl)
theorem qw1645 : Cond.methodLink RX12 103 yX12_ones ∈ lw_all := tt59_all _ (List.mem_of_getElem? (i := 14) rfl)
theorem qw1646 : Cond.static yX12_ones ∈ lw_all := tt59_all _ (List.mem_of_getElem? (i := 15) rfl)
theorem qw1647 : Cond.code yX12_ones cX12_ones 3 (Option.some Jvm.ClassFile.FieldType.int) ∈ lw_all := tt59_all _ (List.mem_of_getElem? (i := 16) rfl)
theorem qw1648 : Cond.methodLink RL 61 yX12_takeBack ∈ lw_all := tt59_all _ (List.mem_of_getElem? (i := 17) rfl)
theorem qw1649 : Cond.instanceMethod yX12_takeBack ∈ lw_all := tt59_all _ (List.mem_of_getElem? (i := 18) rfl)
theorem qw1650 : Cond.selects RX12 yX12_takeBack yX12_takeBack ∈ lw_all := tt59_all _ (List.mem_of_getElem? (i := 19) rfl)
theorem qw1651 : Cond.code yX12_takeBack cX12_takeBack 4 (Option.some Jvm.ClassFile.FieldType.int) ∈ lw_all := tt59_all _ (List.mem_of_getElem? (i := 20) rfl)
theorem qw1652 : Cond.methodLink RL 65 yX12_lay ∈ lw_all := tt59_all _ (List.mem_of_getElem? (i := 21) rfl)
theorem qw1653 : Cond.instanceMethod yX12_lay ∈ lw_all := tt59_all _ (List.mem_of_getElem? (i := 22) rfl)
theorem qw1654 : Cond.selects RX12 yX12_lay yX12_lay ∈ lw_all := tt59_all _ (List.mem_of_getElem? (i := 23) rfl)
theorem qw1655 : Cond.code yX12_lay cX12_lay 5 (Option.some Jvm.ClassFile.FieldType.int) ∈ lw_all := tt59_all _ (List.mem_of_getElem? (i := 24) rfl)
theorem qw1656 : Cond.methodLink RX12 291 yX12_would ∈ lw_all := tt60_all _ (List.mem_of_getElem? (i := 0) rfl)
theorem qw1658 : Cond.instanceMethod yX12_would ∈ lw_all := tt60_all _ (List.mem_of_getElem? (i := 1) rfl)
theorem qw1659 : Cond.code yX12_would cX12_would 4 (Option.some Jvm.ClassFile.FieldType.int) ∈ lw_all := tt60_all _ (List.mem_of_getElem? (i := 2) rfl)
theorem qw1660 : Cond.methodLink RX12 284 yX12_has ∈ lw_all := tt60_all _ (List.mem_of_getElem? (i := 3) rfl)
theorem qw1662 : Cond.instanceMethod yX12_has ∈ lw_all := tt60_all _ (List.mem_of_getElem? (i := 4) rfl)
theorem qw1663 : Cond.code yX12_has cX12_has 3 (Option.some Jvm.ClassFile.FieldType.boolean) ∈ lw_all := tt60_all _ (List.mem_of_getElem? (i := 5) rfl)
theorem qw1664 : Cond.methodLink RX12 287 yX12_wrongBy ∈ lw_all := tt60_all _ (List.mem_of_getElem? (i := 6) rfl)
theorem qw1666 : Cond.instanceMethod yX12_wrongBy ∈ lw_all := tt60_all _ (List.mem_of_getElem? (i := 7) rfl)
theorem qw1667 : Cond.code yX12_wrongBy cX12_wrongBy 5 (Option.some Jvm.ClassFile.FieldType.int) ∈ lw_all := tt60_all _ (List.mem_of_getElem? (i := 8) rfl)
theorem qw1668 : Cond.methodLink RX12 95 yX12_setIn ∈ lw_all := tt60_all _ (List.mem_of_getElem? (i := 9) rfl)
theorem qw1670 : Cond.instanceMethod yX12_setIn ∈ lw_all := tt60_all _ (List.mem_of_getElem? (i := 10) rfl)
theorem qw1671 : Cond.code yX12_setIn cX12_setIn 4 (Option.some Jvm.ClassFile.FieldType.int) ∈ lw_all := tt60_all _ (List.mem_of_getElem? (i := 11) rfl)
theorem qw1672 : Cond.methodLink RL 69 yX12_contest ∈ lw_all := tt60_all _ (List.mem_of_getElem? (i := 12) rfl)
theorem qw1673 : Cond.instanceMethod yX12_contest ∈ lw_all := tt60_all _ (List.mem_of_getElem? (i := 13) rfl)
theorem qw1674 : Cond.selects RX12 yX12_contest yX12_contest ∈ lw_all := tt60_all _ (List.mem_of_getElem? (i := 14) rfl)
theorem qw1675 : Cond.code yX12_contest cX12_contest 4 (Option.some Jvm.ClassFile.FieldType.int) ∈ lw_all := tt60_all _ (List.mem_of_getElem? (i := 15) rfl)
theorem qw1676 : Cond.methodLink RX12 294 yX12_isInTime ∈ lw_all := tt60_all _ (List.mem_of_getElem? (i := 16) rfl)
theorem qw1678 : Cond.instanceMethod yX12_isInTime ∈ lw_all := tt60_all _ (List.mem_of_getElem? (i := 17) rfl)
theorem qw1679 : Cond.code yX12_isInTime cX12_isInTime 1 (Option.some Jvm.ClassFile.FieldType.boolean) ∈ lw_all := tt60_all _ (List.mem_of_getElem? (i := 18) rfl)
theorem qw1680 : Cond.methodLink RX12 119 yX12_isClosed ∈ lw_all := tt61_all _ (List.mem_of_getElem? (i := 0) rfl)
theorem qw1682 : Cond.instanceMethod yX12_isClosed ∈ lw_all := tt61_all _ (List.mem_of_getElem? (i := 1) rfl)
theorem qw1683 : Cond.code yX12_isClosed cX12_isClosed 1 (Option.some Jvm.ClassFile.FieldType.boolean) ∈ lw_all := tt61_all _ (List.mem_of_getElem? (i := 2) rfl)
theorem qw1684 : Cond.methodLink RX12 297 yX12_strikes ∈ lw_all := tt61_all _ (List.mem_of_getElem? (i := 3) rfl)
theorem qw1686 : Cond.instanceMethod yX12_strikes ∈ lw_all := tt61_all _ (List.mem_of_getElem? (i := 4) rfl)
theorem qw1687 : Cond.code yX12_strikes cX12_strikes 4 (Option.none : Option Jvm.ClassFile.FieldType) ∈ lw_all := tt61_all _ (List.mem_of_getElem? (i := 5) rfl)
theorem qw1688 : Cond.methodLink RX12 135 yX12_resultNow ∈ lw_all := tt61_all _ (List.mem_of_getElem? (i := 6) rfl)
theorem qw1690 : Cond.instanceMethod yX12_resultNow ∈ lw_all := tt61_all _ (List.mem_of_getElem? (i := 7) rfl)
theorem qw1691 : Cond.code yX12_resultNow cX12_resultNow 1 (Option.some Jvm.ClassFile.FieldType.int) ∈ lw_all := tt61_all _ (List.mem_of_getElem? (i := 8) rfl)
theorem qw1692 : Cond.methodLink RX12 125 yX12_needNow ∈ lw_all := tt61_all _ (List.mem_of_getElem? (i := 9) rfl)
theorem qw1694 : Cond.instanceMethod yX12_needNow ∈ lw_all := tt61_all _ (List.mem_of_getElem? (i := 10) rfl)
theorem qw1695 : Cond.code yX12_needNow cX12_needNow 1 (Option.some Jvm.ClassFile.FieldType.int) ∈ lw_all := tt61_all _ (List.mem_of_getElem? (i := 11) rfl)
theorem qw1696 : Cond.methodLink RX12 122 yX12_needIn0 ∈ lw_all := tt61_all _ (List.mem_of_getElem? (i := 12) rfl)
theorem qw1698 : Cond.instanceMethod yX12_needIn0 ∈ lw_all := tt61_all _ (List.mem_of_getElem? (i := 13) rfl)
theorem qw1699 : Cond.code yX12_needIn0 cX12_needIn0 3 (Option.some Jvm.ClassFile.FieldType.int) ∈ lw_all := tt61_all _ (List.mem_of_getElem? (i := 14) rfl)
theorem qw1700 : Cond.methodLink RX12 109 yX12_outOn ∈ lw_all := tt61_all _ (List.mem_of_getElem? (i := 15) rfl)
theorem qw1702 : Cond.instanceMethod yX12_outOn ∈ lw_all := tt61_all _ (List.mem_of_getElem? (i := 16) rfl)
theorem qw1703 : Cond.code yX12_outOn cX12_outOn 4 (Option.some Jvm.ClassFile.FieldType.int) ∈ lw_all := tt61_all _ (List.mem_of_getElem? (i := 17) rfl)
theorem qw1704 : Cond.methodLink RX12 112 yX12_needOn ∈ lw_all := tt61_all _ (List.mem_of_getElem? (i := 18) rfl)
theorem qw1706 : Cond.instanceMethod yX12_needOn ∈ lw_all := tt61_all _ (List.mem_of_getElem? (i := 19) rfl)
theorem qw1707 : Cond.code yX12_needOn cX12_needOn 5 (Option.some Jvm.ClassFile.FieldType.int) ∈ lw_all := tt61_all _ (List.mem_of_getElem? (i := 20) rfl)
theorem qw1708 : Cond.methodLink RX12 128 yX12_resultOf ∈ lw_all := tt61_all _ (List.mem_of_getElem? (i := 21) rfl)
theorem qw1710 : Cond.instanceMethod yX12_resultOf ∈ lw_all := tt61_all _ (List.mem_of_getElem? (i := 22) rfl)
theorem qw1711 : Cond.code yX12_resultOf cX12_resultOf 11 (Option.some Jvm.ClassFile.FieldType.int) ∈ lw_all := tt61_all _ (List.mem_of_getElem? (i := 23) rfl)
theorem qw1712 : Cond.methodLink RX12 141 yX12_keepsPast ∈ lw_all := tt61_all _ (List.mem_of_getElem? (i := 24) rfl)
theorem qw1714 : Cond.instanceMethod yX12_keepsPast ∈ lw_all := tt62_all _ (List.mem_of_getElem? (i := 0) rfl)
theorem qw1715 : Cond.code yX12_keepsPast cX12_keepsPast 2 (Option.none : Option Jvm.ClassFile.FieldType) ∈ lw_all := tt62_all _ (List.mem_of_getElem? (i := 1) rfl)
theorem qw1716 : Cond.methodLink RX12 132 yX12_turnout ∈ lw_all := tt62_all _ (List.mem_of_getElem? (i := 2) rfl)
theorem qw1718 : Cond.instanceMethod yX12_turnout ∈ lw_all := tt62_all _ (List.mem_of_getElem? (i := 3) rfl)
theorem qw1719 : Cond.code yX12_turnout cX12_turnout 1 (Option.some Jvm.ClassFile.FieldType.int) ∈ lw_all := tt62_all _ (List.mem_of_getElem? (i := 4) rfl)
theorem qw1720 : Cond.methodLink RX12 99 yX12_allLaid ∈ lw_all := tt62_all _ (List.mem_of_getElem? (i := 5) rfl)
theorem qw1722 : Cond.instanceMethod yX12_allLaid ∈ lw_all := tt62_all _ (List.mem_of_getElem? (i := 6) rfl)
theorem qw1723 : Cond.code yX12_allLaid cX12_allLaid 3 (Option.some Jvm.ClassFile.FieldType.int) ∈ lw_all := tt62_all _ (List.mem_of_getElem? (i := 7) rfl)
theorem qw1724 : Cond.methodLink RX12 144 yX12_orMinus ∈ lw_all := tt62_all _ (List.mem_of_getElem? (i := 8) rfl)
theorem qw1725 : Cond.static yX12_orMinus ∈ lw_all := tt62_all _ (List.mem_of_getElem? (i := 9) rfl)
theorem qw1726 : Cond.code yX12_orMinus cX12_orMinus 1 (Option.some Jvm.ClassFile.FieldType.int) ∈ lw_all := tt62_all _ (List.mem_of_getElem? (i := 10) rfl)
theorem qw1727 : Cond.methodLink RL 73 yX12_close ∈ lw_all := tt62_all _ (List.mem_of_getElem? (i := 11) rfl)
theorem qw1728 : Cond.instanceMethod yX12_close ∈ lw_all := tt62_all _ (List.mem_of_getElem? (i := 12) rfl)
theorem qw1729 : Cond.selects RX12 yX12_close yX12_close ∈ lw_all := tt62_all _ (List.mem_of_getElem? (i := 13) rfl)
theorem qw1730 : Cond.code yX12_close cX12_close 1 (Option.some Jvm.ClassFile.FieldType.int) ∈ lw_all := tt62_all _ (List.mem_of_getElem? (i := 14) rfl)
theorem qw1731 : Cond.methodLink RL 77 yX12_recount ∈ lw_all := tt62_all _ (List.mem_of_getElem? (i := 15) rfl)
theorem qw1732 : Cond.instanceMethod yX12_recount ∈ lw_all := tt62_all _ (List.mem_of_getElem? (i := 16) rfl)
theorem qw1733 : Cond.selects RX12 yX12_recount yX12_recount ∈ lw_all := tt62_all _ (List.mem_of_getElem? (i := 17) rfl)
theorem qw1734 : Cond.code yX12_recount cX12_recount 2 (Option.some Jvm.ClassFile.FieldType.int) ∈ lw_all := tt62_all _ (List.mem_of_getElem? (i := 18) rfl)
theorem qw1735 : Cond.methodLink RX12 300 yX12_wrongSet ∈ lw_all := tt62_all _ (List.mem_of_getElem? (i := 19) rfl)
theorem qw1737 : Cond.instanceMethod yX12_wrongSet ∈ lw_all := tt62_all _ (List.mem_of_getElem? (i := 20) rfl)
theorem qw1738 : Cond.code yX12_wrongSet cX12_wrongSet 3 (Option.some Jvm.ClassFile.FieldType.int) ∈ lw_all := tt62_all _ (List.mem_of_getElem? (i := 21) rfl)
theorem qw1739 : Cond.methodLink RL 81 yX12_pass ∈ lw_all := tt62_all _ (List.mem_of_getElem? (i := 22) rfl)
theorem qw1740 : Cond.instanceMethod yX12_pass ∈ lw_all := tt62_all _ (List.mem_of_getElem? (i := 23) rfl)
theorem qw1741 : Cond.selects RX12 yX12_pass yX12_pass ∈ lw_all := tt62_all _ (List.mem_of_getElem? (i := 24) rfl)
theorem qw1742 : Cond.code yX12_pass cX12_pass 4 (Option.some Jvm.ClassFile.FieldType.int) ∈ lw_all := tt63_all _ (List.mem_of_getElem? (i := 0) rfl)
theorem qw1743 : Cond.methodLink RX12 303 yX12_passes ∈ lw_all := tt63_all _ (List.mem_of_getElem? (i := 1) rfl)
theorem qw1745 : Cond.instanceMethod yX12_passes ∈ lw_all := tt63_all _ (List.mem_of_getElem? (i := 2) rfl)
theorem qw1746 : Cond.code yX12_passes cX12_passes 3 (Option.some Jvm.ClassFile.FieldType.int) ∈ lw_all := tt63_all _ (List.mem_of_getElem? (i := 3) rfl)
theorem qw1747 : Cond.methodLink RL 85 yX12_keep ∈ lw_all := tt63_all _ (List.mem_of_getElem? (i := 4) rfl)
theorem qw1748 : Cond.instanceMethod yX12_keep ∈ lw_all := tt63_all _ (List.mem_of_getElem? (i := 5) rfl)
theorem qw1749 : Cond.selects RX12 yX12_keep yX12_keep ∈ lw_all := tt63_all _ (List.mem_of_getElem? (i := 6) rfl)
theorem qw1750 : Cond.code yX12_keep cX12_keep 3 (Option.some Jvm.ClassFile.FieldType.int) ∈ lw_all := tt63_all _ (List.mem_of_getElem? (i := 7) rfl)
theorem qw1751 : Cond.methodLink RL 89 yX12_restore ∈ lw_all := tt63_all _ (List.mem_of_getElem? (i := 8) rfl)
theorem qw1752 : Cond.instanceMethod yX12_restore ∈ lw_all := tt63_all _ (List.mem_of_getElem? (i := 9) rfl)
theorem qw1753 : Cond.selects RX12 yX12_restore yX12_restore ∈ lw_all := tt63_all _ (List.mem_of_getElem? (i := 10) rfl)
theorem qw1754 : Cond.code yX12_restore cX12_restore 3 (Option.some Jvm.ClassFile.FieldType.int) ∈ lw_all := tt63_all _ (List.mem_of_getElem? (i := 11) rfl)
theorem qw1755 : Cond.methodLink RL 97 yX12_value ∈ lw_all := tt63_all _ (List.mem_of_getElem? (i := 12) rfl)
theorem qw1756 : Cond.instanceMethod yX12_value ∈ lw_all := tt63_all _ (List.mem_of_getElem? (i := 13) rfl)
theorem qw1757 : Cond.selects RX12 yX12_value yX12_value ∈ lw_all := tt63_all _ (List.mem_of_getElem? (i := 14) rfl)
theorem qw1758 : Cond.code yX12_value cX12_value 2 (Option.some Jvm.ClassFile.FieldType.int) ∈ lw_all := tt63_all _ (List.mem_of_getElem? (i := 15) rfl)
theorem qw1759 : Cond.methodLink RX12 306 yX12_atSeaMany ∈ lw_all := tt63_all _ (List.mem_of_getElem? (i := 16) rfl)
theorem qw1761 : Cond.instanceMethod yX12_atSeaMany ∈ lw_all := tt63_all _ (List.mem_of_getElem? (i := 17) rfl)
theorem qw1762 : Cond.code yX12_atSeaMany cX12_atSeaMany 3 (Option.some Jvm.ClassFile.FieldType.int) ∈ lw_all := tt63_all _ (List.mem_of_getElem? (i := 18) rfl)
theorem qw1763 : Cond.methodLink RX12 309 yX12_stateOf ∈ lw_all := tt63_all _ (List.mem_of_getElem? (i := 19) rfl)
theorem qw1765 : Cond.instanceMethod yX12_stateOf ∈ lw_all := tt63_all _ (List.mem_of_getElem? (i := 20) rfl)
theorem qw1766 : Cond.code yX12_stateOf cX12_stateOf 1 (Option.some Jvm.ClassFile.FieldType.int) ∈ lw_all := tt63_all _ (List.mem_of_getElem? (i := 21) rfl)
theorem qw1767 : Cond.methodLink RX12 312 yX12_struckMany ∈ lw_all := tt63_all _ (List.mem_of_getElem? (i := 22) rfl)
theorem qw1769 : Cond.instanceMethod yX12_struckMany ∈ lw_all := tt63_all _ (List.mem_of_getElem? (i := 23) rfl)
theorem qw1770 : Cond.code yX12_struckMany cX12_struckMany 3 (Option.some Jvm.ClassFile.FieldType.int) ∈ lw_all := tt63_all _ (List.mem_of_getElem? (i := 24) rfl)
theorem qw1771 : Cond.methodLink RL 101 yX12_person ∈ lw_all := tt64_all _ (List.mem_of_getElem? (i := 0) rfl)
theorem qw1772 : Cond.instanceMethod yX12_person ∈ lw_all := tt64_all _ (List.mem_of_getElem? (i := 1) rfl)
theorem qw1773 : Cond.selects RX12 yX12_person yX12_person ∈ lw_all := tt64_all _ (List.mem_of_getElem? (i := 2) rfl)
theorem qw1774 : Cond.code yX12_person cX12_person 3 (Option.some Jvm.ClassFile.FieldType.int) ∈ lw_all := tt64_all _ (List.mem_of_getElem? (i := 3) rfl)
theorem qw1775 : Cond.methodLink RL 105 yX12_boat ∈ lw_all := tt64_all _ (List.mem_of_getElem? (i := 4) rfl)
theorem qw1776 : Cond.instanceMethod yX12_boat ∈ lw_all := tt64_all _ (List.mem_of_getElem? (i := 5) rfl)
theorem qw1777 : Cond.selects RX12 yX12_boat yX12_boat ∈ lw_all := tt64_all _ (List.mem_of_getElem? (i := 6) rfl)
theorem qw1778 : Cond.code yX12_boat cX12_boat 3 (Option.some Jvm.ClassFile.FieldType.int) ∈ lw_all := tt64_all _ (List.mem_of_getElem? (i := 7) rfl)
theorem qw1779 : Cond.methodLink RX12 315 yX12_manyOf ∈ lw_all := tt64_all _ (List.mem_of_getElem? (i := 8) rfl)
theorem qw1781 : Cond.instanceMethod yX12_manyOf ∈ lw_all := tt64_all _ (List.mem_of_getElem? (i := 9) rfl)
theorem qw1782 : Cond.code yX12_manyOf cX12_manyOf 5 (Option.some Jvm.ClassFile.FieldType.int) ∈ lw_all := tt64_all _ (List.mem_of_getElem? (i := 10) rfl)
theorem qw1783 : Cond.methodLink RL 109 yX12_stick ∈ lw_all := tt64_all _ (List.mem_of_getElem? (i := 11) rfl)
theorem qw1784 : Cond.instanceMethod yX12_stick ∈ lw_all := tt64_all _ (List.mem_of_getElem? (i := 12) rfl)
theorem qw1785 : Cond.selects RX12 yX12_stick yX12_stick ∈ lw_all := tt64_all _ (List.mem_of_getElem? (i := 13) rfl)
theorem qw1786 : Cond.code yX12_stick cX12_stick 3 (Option.some Jvm.ClassFile.FieldType.int) ∈ lw_all := tt64_all _ (List.mem_of_getElem? (i := 14) rfl)
theorem qw1787 : Cond.constantLong RX12 318 (5 : Int64) ∈ lw_all := tt64_all _ (List.mem_of_getElem? (i := 15) rfl)
theorem qw1788 : Cond.methodLink RL 113 yX12_basket ∈ lw_all := tt64_all _ (List.mem_of_getElem? (i := 16) rfl)
theorem qw1789 : Cond.instanceMethod yX12_basket ∈ lw_all := tt64_all _ (List.mem_of_getElem? (i := 17) rfl)
theorem qw1790 : Cond.selects RX12 yX12_basket yX12_basket ∈ lw_all := tt64_all _ (List.mem_of_getElem? (i := 18) rfl)
theorem qw1791 : Cond.code yX12_basket cX12_basket 2 (Option.some Jvm.ClassFile.FieldType.int) ∈ lw_all := tt64_all _ (List.mem_of_getElem? (i := 19) rfl)
theorem qw1792 : Cond.methodLink RL 117 yX12_number_ ∈ lw_all := tt64_all _ (List.mem_of_getElem? (i := 20) rfl)
theorem qw1793 : Cond.instanceMethod yX12_number_ ∈ lw_all := tt64_all _ (List.mem_of_getElem? (i := 21) rfl)
theorem qw1794 : Cond.selects RX12 yX12_number_ yX12_number_ ∈ lw_all := tt64_all _ (List.mem_of_getElem? (i := 22) rfl)
theorem qw1795 : Cond.code yX12_number_ cX12_number_ 2 (Option.some Jvm.ClassFile.FieldType.int) ∈ lw_all := tt64_all _ (List.mem_of_getElem? (i := 23) rfl)
theorem qw1796 : Cond.constantLong RX12 320 (9 : Int64) ∈ lw_all := tt64_all _ (List.mem_of_getElem? (i := 24) rfl)
theorem qw1797 : Cond.methodLink RL 121 yX12_past ∈ lw_all := tt65_all _ (List.mem_of_getElem? (i := 0) rfl)
theorem qw1798 : Cond.instanceMethod yX12_past ∈ lw_all := tt65_all _ (List.mem_of_getElem? (i := 1) rfl)
theorem qw1799 : Cond.selects RX12 yX12_past yX12_past ∈ lw_all := tt65_all _ (List.mem_of_getElem? (i := 2) rfl)
theorem qw1800 : Cond.code yX12_past cX12_past 4 (Option.some Jvm.ClassFile.FieldType.int) ∈ lw_all := tt65_all _ (List.mem_of_getElem? (i := 3) rfl)
theorem qw1801 : Cond.methodLink RL 125 yX12_log ∈ lw_all := tt65_all _ (List.mem_of_getElem? (i := 4) rfl)
theorem qw1802 : Cond.instanceMethod yX12_log ∈ lw_all := tt65_all _ (List.mem_of_getElem? (i := 5) rfl)
theorem qw1803 : Cond.selects RX12 yX12_log yX12_log ∈ lw_all := tt65_all _ (List.mem_of_getElem? (i := 6) rfl)
theorem qw1804 : Cond.code yX12_log cX12_log 3 (Option.some Jvm.ClassFile.FieldType.int) ∈ lw_all := tt65_all _ (List.mem_of_getElem? (i := 7) rfl)
theorem qw1805 : Cond.methodLink RL 130 yX12_named_ ∈ lw_all := tt65_all _ (List.mem_of_getElem? (i := 8) rfl)
theorem qw1806 : Cond.instanceMethod yX12_named_ ∈ lw_all := tt65_all _ (List.mem_of_getElem? (i := 9) rfl)
theorem qw1807 : Cond.selects RX12 yX12_named_ yX12_named_ ∈ lw_all := tt65_all _ (List.mem_of_getElem? (i := 10) rfl)
theorem qw1808 : Cond.code yX12_named_ cX12_named_ 4 (Option.some Jvm.ClassFile.FieldType.int) ∈ lw_all := tt65_all _ (List.mem_of_getElem? (i := 11) rfl)
theorem qw1809 : Cond.methodLink RX12 322 yX12_isName ∈ lw_all := tt65_all _ (List.mem_of_getElem? (i := 12) rfl)
theorem qw1810 : Cond.static yX12_isName ∈ lw_all := tt65_all _ (List.mem_of_getElem? (i := 13) rfl)
theorem qw1811 : Cond.code yX12_isName cX12_isName 5 (Option.some Jvm.ClassFile.FieldType.boolean) ∈ lw_all := tt65_all _ (List.mem_of_getElem? (i := 14) rfl)
theorem qw1812 : Cond.methodLink RL 134 yX12_owners ∈ lw_all := tt65_all _ (List.mem_of_getElem? (i := 15) rfl)
theorem qw1813 : Cond.instanceMethod yX12_owners ∈ lw_all := tt65_all _ (List.mem_of_getElem? (i := 16) rfl)
theorem qw1814 : Cond.selects RX12 yX12_owners yX12_owners ∈ lw_all := tt65_all _ (List.mem_of_getElem? (i := 17) rfl)
theorem qw1815 : Cond.code yX12_owners cX12_owners 2 (Option.some Jvm.ClassFile.FieldType.int) ∈ lw_all := tt65_all _ (List.mem_of_getElem? (i := 18) rfl)
theorem qw1816 : Cond.methodLink RL 138 yX12_carries ∈ lw_all := tt65_all _ (List.mem_of_getElem? (i := 19) rfl)
theorem qw1817 : Cond.instanceMethod yX12_carries ∈ lw_all := tt65_all _ (List.mem_of_getElem? (i := 20) rfl)
theorem qw1818 : Cond.selects RX12 yX12_carries yX12_carries ∈ lw_all := tt65_all _ (List.mem_of_getElem? (i := 21) rfl)
theorem qw1819 : Cond.code yX12_carries cX12_carries 2 (Option.some Jvm.ClassFile.FieldType.int) ∈ lw_all := tt65_all _ (List.mem_of_getElem? (i := 22) rfl)
theorem qw1820 : Cond.methodLink RL 142 yX12_wrongOnes ∈ lw_all := tt65_all _ (List.mem_of_getElem? (i := 23) rfl)
theorem qw1821 : Cond.instanceMethod yX12_wrongOnes ∈ lw_all := tt65_all _ (List.mem_of_getElem? (i := 24) rfl)
theorem qw1822 : Cond.selects RX12 yX12_wrongOnes yX12_wrongOnes ∈ lw_all := tt66_all _ (List.mem_of_getElem? (i := 0) rfl)
theorem qw1823 : Cond.code yX12_wrongOnes cX12_wrongOnes 1 (Option.some Jvm.ClassFile.FieldType.int) ∈ lw_all := tt66_all _ (List.mem_of_getElem? (i := 1) rfl)
theorem qw1824 : Cond.methodLink RL 146 yX12_why ∈ lw_all := tt66_all _ (List.mem_of_getElem? (i := 2) rfl)
theorem qw1825 : Cond.instanceMethod yX12_why ∈ lw_all := tt66_all _ (List.mem_of_getElem? (i := 3) rfl)
theorem qw1826 : Cond.selects RX12 yX12_why yX12_why ∈ lw_all := tt66_all _ (List.mem_of_getElem? (i := 4) rfl)
theorem qw1827 : Cond.code yX12_why cX12_why 4 (Option.some Jvm.ClassFile.FieldType.int) ∈ lw_all := tt66_all _ (List.mem_of_getElem? (i := 5) rfl)
theorem qw1828 : Cond.methodLink RL 150 yX12_needIfHome ∈ lw_all := tt66_all _ (List.mem_of_getElem? (i := 6) rfl)
theorem qw1829 : Cond.instanceMethod yX12_needIfHome ∈ lw_all := tt66_all _ (List.mem_of_getElem? (i := 7) rfl)
theorem qw1830 : Cond.selects RX12 yX12_needIfHome yX12_needIfHome ∈ lw_all := tt66_all _ (List.mem_of_getElem? (i := 8) rfl)
theorem qw1831 : Cond.code yX12_needIfHome cX12_needIfHome 2 (Option.some Jvm.ClassFile.FieldType.int) ∈ lw_all := tt66_all _ (List.mem_of_getElem? (i := 9) rfl)
theorem qw1832 : Cond.methodLink RL 154 yX12_leads ∈ lw_all := tt66_all _ (List.mem_of_getElem? (i := 10) rfl)
theorem qw1833 : Cond.instanceMethod yX12_leads ∈ lw_all := tt66_all _ (List.mem_of_getElem? (i := 11) rfl)
theorem qw1834 : Cond.selects RX12 yX12_leads yX12_leads ∈ lw_all := tt66_all _ (List.mem_of_getElem? (i := 12) rfl)
theorem qw1835 : Cond.code yX12_leads cX12_leads 1 (Option.some Jvm.ClassFile.FieldType.int) ∈ lw_all := tt66_all _ (List.mem_of_getElem? (i := 13) rfl)
theorem qw1836 : Cond.methodLink RL 158 yX12_truly ∈ lw_all := tt66_all _ (List.mem_of_getElem? (i := 14) rfl)
theorem qw1837 : Cond.instanceMethod yX12_truly ∈ lw_all := tt66_all _ (List.mem_of_getElem? (i := 15) rfl)
theorem qw1838 : Cond.selects RX12 yX12_truly yX12_truly ∈ lw_all := tt66_all _ (List.mem_of_getElem? (i := 16) rfl)
theorem qw1839 : Cond.code yX12_truly cX12_truly 1 (Option.some Jvm.ClassFile.FieldType.int) ∈ lw_all := tt66_all _ (List.mem_of_getElem? (i := 17) rfl)
theorem qw1840 : Cond.methodLink RL 163 yX12_canWin ∈ lw_all := tt66_all _ (List.mem_of_getElem? (i := 18) rfl)
theorem qw1841 : Cond.instanceMethod yX12_canWin ∈ lw_all := tt66_all _ (List.mem_of_getElem? (i := 19) rfl)
theorem qw1842 : Cond.selects RX12 yX12_canWin yX12_canWin ∈ lw_all := tt66_all _ (List.mem_of_getElem? (i := 20) rfl)
theorem qw1843 : Cond.code yX12_canWin cX12_canWin 4 (Option.some Jvm.ClassFile.FieldType.boolean) ∈ lw_all := tt66_all _ (List.mem_of_getElem? (i := 21) rfl)
theorem qw1844 : Cond.methodLink RX12 325 yX12_couldBeLaid ∈ lw_all := tt66_all _ (List.mem_of_getElem? (i := 22) rfl)
theorem qw1846 : Cond.instanceMethod yX12_couldBeLaid ∈ lw_all := tt66_all _ (List.mem_of_getElem? (i := 23) rfl)
theorem qw1847 : Cond.code yX12_couldBeLaid cX12_couldBeLaid 3 (Option.some Jvm.ClassFile.FieldType.boolean) ∈ lw_all := tt66_all _ (List.mem_of_getElem? (i := 24) rfl)
theorem qw1848 : Cond.methodLink RL 167 yX12_decisive ∈ lw_all := tt67_all _ (List.mem_of_getElem? (i := 0) rfl)
theorem qw1849 : Cond.instanceMethod yX12_decisive ∈ lw_all := tt67_all _ (List.mem_of_getElem? (i := 1) rfl)
theorem qw1850 : Cond.selects RX12 yX12_decisive yX12_decisive ∈ lw_all := tt67_all _ (List.mem_of_getElem? (i := 2) rfl)
theorem qw1851 : Cond.code yX12_decisive cX12_decisive 5 (Option.some Jvm.ClassFile.FieldType.int) ∈ lw_all := tt67_all _ (List.mem_of_getElem? (i := 3) rfl)
theorem qw1852 : Cond.methodLink RL 171 yX12_lacks ∈ lw_all := tt67_all _ (List.mem_of_getElem? (i := 4) rfl)
theorem qw1853 : Cond.instanceMethod yX12_lacks ∈ lw_all := tt67_all _ (List.mem_of_getElem? (i := 5) rfl)
theorem qw1854 : Cond.selects RX12 yX12_lacks yX12_lacks ∈ lw_all := tt67_all _ (List.mem_of_getElem? (i := 6) rfl)
theorem qw1855 : Cond.code yX12_lacks cX12_lacks 2 (Option.some Jvm.ClassFile.FieldType.int) ∈ lw_all := tt67_all _ (List.mem_of_getElem? (i := 7) rfl)
theorem qw1856 : Cond.methodLink RL 175 yX12_needIn ∈ lw_all := tt67_all _ (List.mem_of_getElem? (i := 8) rfl)
theorem qw1857 : Cond.instanceMethod yX12_needIn ∈ lw_all := tt67_all _ (List.mem_of_getElem? (i := 9) rfl)
theorem qw1858 : Cond.selects RX12 yX12_needIn yX12_needIn ∈ lw_all := tt67_all _ (List.mem_of_getElem? (i := 10) rfl)
theorem qw1859 : Cond.code yX12_needIn cX12_needIn 2 (Option.some Jvm.ClassFile.FieldType.int) ∈ lw_all := tt67_all _ (List.mem_of_getElem? (i := 11) rfl)
theorem qw1860 : Cond.constantLong RX12 328 (999 : Int64) ∈ lw_all := tt67_all _ (List.mem_of_getElem? (i := 12) rfl)
theorem qw1861 : Cond.methodLink RL 179 yX12_bestDay ∈ lw_all := tt67_all _ (List.mem_of_getElem? (i := 13) rfl)
theorem qw1862 : Cond.instanceMethod yX12_bestDay ∈ lw_all := tt67_all _ (List.mem_of_getElem? (i := 14) rfl)
theorem qw1863 : Cond.selects RX12 yX12_bestDay yX12_bestDay ∈ lw_all := tt67_all _ (List.mem_of_getElem? (i := 15) rfl)
theorem qw1864 : Cond.code yX12_bestDay cX12_bestDay 6 (Option.some Jvm.ClassFile.FieldType.int) ∈ lw_all := tt67_all _ (List.mem_of_getElem? (i := 16) rfl)
theorem qw1865 : Cond.methodLink RX12 330 yX12_ashoreOn ∈ lw_all := tt67_all _ (List.mem_of_getElem? (i := 17) rfl)
theorem qw1867 : Cond.instanceMethod yX12_ashoreOn ∈ lw_all := tt67_all _ (List.mem_of_getElem? (i := 18) rfl)
theorem qw1868 : Cond.code yX12_ashoreOn cX12_ashoreOn 4 (Option.some Jvm.ClassFile.FieldType.int) ∈ lw_all := tt67_all _ (List.mem_of_getElem? (i := 19) rfl)
theorem qw1869 : Cond.methodLink RL 183 yX12_mightiest ∈ lw_all := tt67_all _ (List.mem_of_getElem? (i := 20) rfl)
theorem qw1870 : Cond.instanceMethod yX12_mightiest ∈ lw_all := tt67_all _ (List.mem_of_getElem? (i := 21) rfl)
theorem qw1871 : Cond.selects RX12 yX12_mightiest yX12_mightiest ∈ lw_all := tt67_all _ (List.mem_of_getElem? (i := 22) rfl)
theorem qw1872 : Cond.code yX12_mightiest cX12_mightiest 4 (Option.some Jvm.ClassFile.FieldType.int) ∈ lw_all := tt67_all _ (List.mem_of_getElem? (i := 23) rfl)
theorem qw1873 : Cond.methodLink RX12 333 yX12_mightOf ∈ lw_all := tt67_all _ (List.mem_of_getElem? (i := 24) rfl)
theorem qw1875 : Cond.instanceMethod yX12_mightOf ∈ lw_all := tt68_all _ (List.mem_of_getElem? (i := 0) rfl)
theorem qw1876 : Cond.code yX12_mightOf cX12_mightOf 5 (Option.some Jvm.ClassFile.FieldType.int) ∈ lw_all := tt68_all _ (List.mem_of_getElem? (i := 1) rfl)
theorem qw1877 : Cond.methodLink RL 188 yX12_agrees ∈ lw_all := tt68_all _ (List.mem_of_getElem? (i := 2) rfl)
theorem qw1878 : Cond.instanceMethod yX12_agrees ∈ lw_all := tt68_all _ (List.mem_of_getElem? (i := 3) rfl)
theorem qw1879 : Cond.selects RX12 yX12_agrees yX12_agrees ∈ lw_all := tt68_all _ (List.mem_of_getElem? (i := 4) rfl)
theorem qw1880 : Cond.code yX12_agrees cX12_agrees 1 (Option.some Jvm.ClassFile.FieldType.boolean) ∈ lw_all := tt68_all _ (List.mem_of_getElem? (i := 5) rfl)
theorem qw1881 : Cond.methodLink RL 193 yX12_share ∈ lw_all := tt68_all _ (List.mem_of_getElem? (i := 6) rfl)
theorem qw1882 : Cond.instanceMethod yX12_share ∈ lw_all := tt68_all _ (List.mem_of_getElem? (i := 7) rfl)
theorem qw1883 : Cond.selects RX12 yX12_share yX12_share ∈ lw_all := tt68_all _ (List.mem_of_getElem? (i := 8) rfl)
theorem qw1884 : Cond.code yX12_share cX12_share 3 (Option.some Jvm.ClassFile.FieldType.float) ∈ lw_all := tt68_all _ (List.mem_of_getElem? (i := 9) rfl)
theorem qw1885 : Cond.constantFloat RX12 336 (3212836864 : UInt32) ∈ lw_all := tt68_all _ (List.mem_of_getElem? (i := 10) rfl)
theorem qw1886 : Cond.methodLink RL 198 yX12_seafaring ∈ lw_all := tt68_all _ (List.mem_of_getElem? (i := 11) rfl)
theorem qw1887 : Cond.instanceMethod yX12_seafaring ∈ lw_all := tt68_all _ (List.mem_of_getElem? (i := 12) rfl)
theorem qw1888 : Cond.selects RX12 yX12_seafaring yX12_seafaring ∈ lw_all := tt68_all _ (List.mem_of_getElem? (i := 13) rfl)
theorem qw1889 : Cond.code yX12_seafaring cX12_seafaring 3 (Option.some Jvm.ClassFile.FieldType.double) ∈ lw_all := tt68_all _ (List.mem_of_getElem? (i := 14) rfl)
theorem qw1890 : Cond.methodLink RL 202 yX12_viewLength ∈ lw_all := tt68_all _ (List.mem_of_getElem? (i := 15) rfl)
theorem qw1891 : Cond.instanceMethod yX12_viewLength ∈ lw_all := tt68_all _ (List.mem_of_getElem? (i := 16) rfl)
theorem qw1892 : Cond.selects RX12 yX12_viewLength yX12_viewLength ∈ lw_all := tt68_all _ (List.mem_of_getElem? (i := 17) rfl)
theorem qw1893 : Cond.code yX12_viewLength cX12_viewLength 1 (Option.some Jvm.ClassFile.FieldType.int) ∈ lw_all := tt68_all _ (List.mem_of_getElem? (i := 18) rfl)
theorem qw1894 : Cond.methodLink RX12 372 yX12_saysView ∈ lw_all := tt68_all _ (List.mem_of_getElem? (i := 19) rfl)
theorem qw1896 : Cond.instanceMethod yX12_saysView ∈ lw_all := tt68_all _ (List.mem_of_getElem? (i := 20) rfl)
theorem qw1897 : Cond.code yX12_saysView cX12_saysView 3 (Option.none : Option Jvm.ClassFile.FieldType) ∈ lw_all := tt68_all _ (List.mem_of_getElem? (i := 21) rfl)
theorem qw1898 : Cond.methodLink RX12 366 yX12_startsText ∈ lw_all := tt68_all _ (List.mem_of_getElem? (i := 22) rfl)
theorem qw1900 : Cond.instanceMethod yX12_startsText ∈ lw_all := tt68_all _ (List.mem_of_getElem? (i := 23) rfl)
theorem qw1901 : Cond.code yX12_startsText cX12_startsText 2 (Option.none : Option Jvm.ClassFile.FieldType) ∈ lw_all := tt68_all _ (List.mem_of_getElem? (i := 24) rfl)
theorem qw1902 : Cond.methodLink RX12 369 yX12_saysPerson ∈ lw_all := tt69_all _ (List.mem_of_getElem? (i := 0) rfl)
theorem qw1904 : Cond.instanceMethod yX12_saysPerson ∈ lw_all := tt69_all _ (List.mem_of_getElem? (i := 1) rfl)
theorem qw1905 : Cond.code yX12_saysPerson cX12_saysPerson 3 (Option.none : Option Jvm.ClassFile.FieldType) ∈ lw_all := tt69_all _ (List.mem_of_getElem? (i := 2) rfl)
theorem qw1906 : Cond.methodLink RX12 351 yX12_saysWord ∈ lw_all := tt69_all _ (List.mem_of_getElem? (i := 3) rfl)
theorem qw1908 : Cond.instanceMethod yX12_saysWord ∈ lw_all := tt69_all _ (List.mem_of_getElem? (i := 4) rfl)
theorem qw1909 : Cond.code yX12_saysWord cX12_saysWord 5 (Option.none : Option Jvm.ClassFile.FieldType) ∈ lw_all := tt69_all _ (List.mem_of_getElem? (i := 5) rfl)
theorem qw1910 : Cond.constantLong RX12 346 (31 : Int64) ∈ lw_all := tt69_all _ (List.mem_of_getElem? (i := 6) rfl)
theorem qw1911 : Cond.methodLink RX12 348 yX12_says ∈ lw_all := tt69_all _ (List.mem_of_getElem? (i := 7) rfl)
theorem qw1913 : Cond.instanceMethod yX12_says ∈ lw_all := tt69_all _ (List.mem_of_getElem? (i := 8) rfl)
theorem qw1914 : Cond.code yX12_says cX12_says 2 (Option.none : Option Jvm.ClassFile.FieldType) ∈ lw_all := tt69_all _ (List.mem_of_getElem? (i := 9) rfl)
theorem qw1915 : Cond.constantLong RX12 355 (263620 : Int64) ∈ lw_all := tt69_all _ (List.mem_of_getElem? (i := 10) rfl)
theorem qw1916 : Cond.constantLong RX12 357 (763528 : Int64) ∈ lw_all := tt69_all _ (List.mem_of_getElem? (i := 11) rfl)
theorem qw1917 : Cond.constantLong RX12 359 (394532 : Int64) ∈ lw_all := tt69_all _ (List.mem_of_getElem? (i := 12) rfl)
theorem qw1918 : Cond.constantLong RX12 361 (659117163 : Int64) ∈ lw_all := tt69_all _ (List.mem_of_getElem? (i := 13) rfl)
theorem qw1919 : Cond.methodLink RX12 363 yX12_saysNumber ∈ lw_all := tt69_all _ (List.mem_of_getElem? (i := 14) rfl)
theorem qw1921 : Cond.instanceMethod yX12_saysNumber ∈ lw_all := tt70_all _ (List.mem_of_getElem? (i := 0) rfl)
theorem qw1922 : Cond.code yX12_saysNumber cX12_saysNumber 4 (Option.none : Option Jvm.ClassFile.FieldType) ∈ lw_all := tt70_all _ (List.mem_of_getElem? (i := 1) rfl)
theorem qw1923 : Cond.methodLink RL 206 yX12_viewByte ∈ lw_all := tt70_all _ (List.mem_of_getElem? (i := 2) rfl)
theorem qw1924 : Cond.instanceMethod yX12_viewByte ∈ lw_all := tt70_all _ (List.mem_of_getElem? (i := 3) rfl)
theorem qw1925 : Cond.selects RX12 yX12_viewByte yX12_viewByte ∈ lw_all := tt70_all _ (List.mem_of_getElem? (i := 4) rfl)
theorem qw1926 : Cond.code yX12_viewByte cX12_viewByte 2 (Option.some Jvm.ClassFile.FieldType.int) ∈ lw_all := tt70_all _ (List.mem_of_getElem? (i := 5) rfl)
theorem qw1927 : Cond.methodLink RL 210 yX12_storyLength ∈ lw_all := tt70_all _ (List.mem_of_getElem? (i := 6) rfl)
theorem qw1928 : Cond.instanceMethod yX12_storyLength ∈ lw_all := tt70_all _ (List.mem_of_getElem? (i := 7) rfl)
theorem qw1929 : Cond.selects RX12 yX12_storyLength yX12_storyLength ∈ lw_all := tt70_all _ (List.mem_of_getElem? (i := 8) rfl)
theorem qw1930 : Cond.code yX12_storyLength cX12_storyLength 1 (Option.some Jvm.ClassFile.FieldType.int) ∈ lw_all := tt70_all _ (List.mem_of_getElem? (i := 9) rfl)
theorem qw1931 : Cond.methodLink RX12 391 yX12_saysStory ∈ lw_all := tt70_all _ (List.mem_of_getElem? (i := 10) rfl)
theorem qw1933 : Cond.instanceMethod yX12_saysStory ∈ lw_all := tt70_all _ (List.mem_of_getElem? (i := 11) rfl)
theorem qw1934 : Cond.code yX12_saysStory cX12_saysStory 4 (Option.none : Option Jvm.ClassFile.FieldType) ∈ lw_all := tt70_all _ (List.mem_of_getElem? (i := 12) rfl)
theorem qw1935 : Cond.methodLink RX12 387 yX12_wordOfLog ∈ lw_all := tt70_all _ (List.mem_of_getElem? (i := 13) rfl)
theorem qw1936 : Cond.static yX12_wordOfLog ∈ lw_all := tt70_all _ (List.mem_of_getElem? (i := 14) rfl)
theorem qw1937 : Cond.code yX12_wordOfLog cX12_wordOfLog 1 (Option.some Jvm.ClassFile.FieldType.long) ∈ lw_all := tt70_all _ (List.mem_of_getElem? (i := 15) rfl)
theorem qw1938 : Cond.constantLong RX12 375 (19965331 : Int64) ∈ lw_all := tt70_all _ (List.mem_of_getElem? (i := 16) rfl)
theorem qw1939 : Cond.constantLong RX12 377 (277925 : Int64) ∈ lw_all := tt70_all _ (List.mem_of_getElem? (i := 17) rfl)
theorem qw1940 : Cond.constantLong RX12 379 (16258515 : Int64) ∈ lw_all := tt70_all _ (List.mem_of_getElem? (i := 18) rfl)
theorem qw1941 : Cond.constantLong RX12 381 (6346132 : Int64) ∈ lw_all := tt70_all _ (List.mem_of_getElem? (i := 19) rfl)
theorem qw1942 : Cond.constantLong RX12 383 (113757348 : Int64) ∈ lw_all := tt70_all _ (List.mem_of_getElem? (i := 20) rfl)
theorem qw1943 : Cond.constantLong RX12 385 (21678547 : Int64) ∈ lw_all := tt70_all _ (List.mem_of_getElem? (i := 21) rfl)
theorem qw1944 : Cond.methodLink RL 214 yX12_storyByte ∈ lw_all := tt70_all _ (List.mem_of_getElem? (i := 22) rfl)
theorem qw1945 : Cond.instanceMethod yX12_storyByte ∈ lw_all := tt70_all _ (List.mem_of_getElem? (i := 23) rfl)
theorem qw1946 : Cond.selects RX12 yX12_storyByte yX12_storyByte ∈ lw_all := tt70_all _ (List.mem_of_getElem? (i := 24) rfl)
theorem qw1947 : Cond.code yX12_storyByte cX12_storyByte 2 (Option.some Jvm.ClassFile.FieldType.int) ∈ lw_all := tt71_all _ (List.mem_of_getElem? (i := 0) rfl)
theorem qw1948 : Cond.methodLink RL 218 yX12_setupLength ∈ lw_all := tt71_all _ (List.mem_of_getElem? (i := 1) rfl)
theorem qw1949 : Cond.instanceMethod yX12_setupLength ∈ lw_all := tt71_all _ (List.mem_of_getElem? (i := 2) rfl)
theorem qw1950 : Cond.selects RX12 yX12_setupLength yX12_setupLength ∈ lw_all := tt71_all _ (List.mem_of_getElem? (i := 3) rfl)
theorem qw1951 : Cond.code yX12_setupLength cX12_setupLength 1 (Option.some Jvm.ClassFile.FieldType.int) ∈ lw_all := tt71_all _ (List.mem_of_getElem? (i := 4) rfl)
theorem qw1952 : Cond.methodLink RX12 401 yX12_saysSetup ∈ lw_all := tt71_all _ (List.mem_of_getElem? (i := 5) rfl)
theorem qw1954 : Cond.instanceMethod yX12_saysSetup ∈ lw_all := tt71_all _ (List.mem_of_getElem? (i := 6) rfl)
theorem qw1955 : Cond.code yX12_saysSetup cX12_saysSetup 3 (Option.none : Option Jvm.ClassFile.FieldType) ∈ lw_all := tt71_all _ (List.mem_of_getElem? (i := 7) rfl)
theorem qw1956 : Cond.methodLink RX12 398 yX12_saysNumbers ∈ lw_all := tt71_all _ (List.mem_of_getElem? (i := 8) rfl)
theorem qw1958 : Cond.instanceMethod yX12_saysNumbers ∈ lw_all := tt71_all _ (List.mem_of_getElem? (i := 9) rfl)
theorem qw1959 : Cond.code yX12_saysNumbers cX12_saysNumbers 2 (Option.none : Option Jvm.ClassFile.FieldType) ∈ lw_all := tt71_all _ (List.mem_of_getElem? (i := 10) rfl)
theorem qw1960 : Cond.methodLink RX12 394 yX12_saysPair ∈ lw_all := tt71_all _ (List.mem_of_getElem? (i := 11) rfl)
theorem qw1962 : Cond.instanceMethod yX12_saysPair ∈ lw_all := tt71_all _ (List.mem_of_getElem? (i := 12) rfl)
theorem qw1963 : Cond.code yX12_saysPair cX12_saysPair 5 (Option.none : Option Jvm.ClassFile.FieldType) ∈ lw_all := tt71_all _ (List.mem_of_getElem? (i := 13) rfl)
theorem qw1964 : Cond.methodLink RL 222 yX12_setupByte ∈ lw_all := tt71_all _ (List.mem_of_getElem? (i := 14) rfl)
theorem qw1965 : Cond.instanceMethod yX12_setupByte ∈ lw_all := tt71_all _ (List.mem_of_getElem? (i := 15) rfl)
theorem qw1966 : Cond.selects RX12 yX12_setupByte yX12_setupByte ∈ lw_all := tt71_all _ (List.mem_of_getElem? (i := 16) rfl)
theorem qw1967 : Cond.code yX12_setupByte cX12_setupByte 2 (Option.some Jvm.ClassFile.FieldType.int) ∈ lw_all := tt71_all _ (List.mem_of_getElem? (i := 17) rfl)
theorem qw1968 : Cond.methodLink RL 226 yX12_tapeLength ∈ lw_all := tt71_all _ (List.mem_of_getElem? (i := 18) rfl)
theorem qw1969 : Cond.instanceMethod yX12_tapeLength ∈ lw_all := tt71_all _ (List.mem_of_getElem? (i := 19) rfl)
theorem qw1970 : Cond.selects RX12 yX12_tapeLength yX12_tapeLength ∈ lw_all := tt71_all _ (List.mem_of_getElem? (i := 20) rfl)
theorem qw1971 : Cond.code yX12_tapeLength cX12_tapeLength 1 (Option.some Jvm.ClassFile.FieldType.int) ∈ lw_all := tt71_all _ (List.mem_of_getElem? (i := 21) rfl)
theorem qw1972 : Cond.fieldLink RJ0 9 "java/lang/String" "value" "[B" ∈ lw_all := tt71_all _ (List.mem_of_getElem? (i := 22) rfl)
theorem qw1973 : Cond.fieldLink RJ0 15 "java/lang/String" "coder" "B" ∈ lw_all := tt71_all _ (List.mem_of_getElem? (i := 23) rfl)
theorem qs0 : Cond.selects RX4 yX4_advance yX4_advance ∈ lw_all := ts0_all _ (List.mem_of_getElem? (i := 0) rfl)
theorem qs1 : Cond.selects RX4 yX4_readNumbers yX4_readNumbers ∈ lw_all := ts0_all _ (List.mem_of_getElem? (i := 1) rfl)
theorem qs2 : Cond.selects RX4 yX4_skipKeyword yX4_skipKeyword ∈ lw_all := ts0_all _ (List.mem_of_getElem? (i := 2) rfl)
theorem qs3 : Cond.selects RX4 yX4_isKeyword yX4_isKeyword ∈ lw_all := ts0_all _ (List.mem_of_getElem? (i := 3) rfl)
theorem qs4 : Cond.selects RX4 yX4_reads yX4_reads ∈ lw_all := ts0_all _ (List.mem_of_getElem? (i := 4) rfl)
theorem qs5 : Cond.selects RX4 yX4_readNumber yX4_readNumber ∈ lw_all := ts0_all _ (List.mem_of_getElem? (i := 5) rfl)
theorem qs6 : Cond.selects RX4 yX4_digits yX4_digits ∈ lw_all := ts0_all _ (List.mem_of_getElem? (i := 6) rfl)
theorem qs7 : Cond.selects RX4 yX4_readShares yX4_readShares ∈ lw_all := ts0_all _ (List.mem_of_getElem? (i := 7) rfl)
theorem qs8 : Cond.selects RX4 yX4_skipSemicolon yX4_skipSemicolon ∈ lw_all := ts0_all _ (List.mem_of_getElem? (i := 8) rfl)
theorem qs9 : Cond.selects RX4 yX4_readBoats yX4_readBoats ∈ lw_all := ts0_all _ (List.mem_of_getElem? (i := 9) rfl)
theorem qs10 : Cond.selects RX4 yX4_isName yX4_isName ∈ lw_all := ts0_all _ (List.mem_of_getElem? (i := 10) rfl)
theorem qs11 : Cond.selects RX4 yX4_isAnyKeyword yX4_isAnyKeyword ∈ lw_all := ts0_all _ (List.mem_of_getElem? (i := 11) rfl)
theorem qs12 : Cond.selects RX4 yX4_letters yX4_letters ∈ lw_all := ts0_all _ (List.mem_of_getElem? (i := 12) rfl)
theorem qs13 : Cond.selects RX4 yX4_readPeople yX4_readPeople ∈ lw_all := ts0_all _ (List.mem_of_getElem? (i := 13) rfl)
theorem qs14 : Cond.selects RX4 yX4_readPerson yX4_readPerson ∈ lw_all := ts0_all _ (List.mem_of_getElem? (i := 14) rfl)
theorem qs15 : Cond.selects RX11 yX11_isBoat yX11_isBoat ∈ lw_all := ts0_all _ (List.mem_of_getElem? (i := 15) rfl)
theorem qs16 : Cond.selects RX5 yX5_placeOf yX5_placeOf ∈ lw_all := ts0_all _ (List.mem_of_getElem? (i := 16) rfl)
theorem qs17 : Cond.selects RX11 yX11_isPerson yX11_isPerson ∈ lw_all := ts0_all _ (List.mem_of_getElem? (i := 17) rfl)
theorem qs18 : Cond.selects RX10 yX10_latestVote yX10_latestVote ∈ lw_all := ts0_all _ (List.mem_of_getElem? (i := 18) rfl)
theorem qs19 : Cond.selects RX11 yX11_refusalToLay yX11_refusalToLay ∈ lw_all := ts0_all _ (List.mem_of_getElem? (i := 19) rfl)
theorem qs20 : Cond.selects RX10 yX10_resultFor yX10_resultFor ∈ lw_all := ts0_all _ (List.mem_of_getElem? (i := 20) rfl)
theorem qs21 : Cond.selects RX0 yX0_countAll yX0_countAll ∈ lw_all := ts0_all _ (List.mem_of_getElem? (i := 21) rfl)
theorem qs22 : Cond.selects RX10 yX10_strike yX10_strike ∈ lw_all := ts0_all _ (List.mem_of_getElem? (i := 22) rfl)
theorem qs23 : Cond.selects RX10 yX10_correctResult yX10_correctResult ∈ lw_all := ts0_all _ (List.mem_of_getElem? (i := 23) rfl)
theorem qs24 : Cond.selects RX9 yX9_countAt yX9_countAt ∈ lw_all := ts0_all _ (List.mem_of_getElem? (i := 24) rfl)
theorem qs25 : Cond.selects RX10 yX10_bringHomeTodays yX10_bringHomeTodays ∈ lw_all := ts1_all _ (List.mem_of_getElem? (i := 0) rfl)
theorem qs26 : Cond.selects RX11 yX11_isSlot yX11_isSlot ∈ lw_all := ts1_all _ (List.mem_of_getElem? (i := 1) rfl)
theorem qs27 : Cond.selects RX10 yX10_canBeLaid yX10_canBeLaid ∈ lw_all := ts1_all _ (List.mem_of_getElem? (i := 2) rfl)
theorem qs28 : Cond.selects RX10 yX10_surplusBehind yX10_surplusBehind ∈ lw_all := ts1_all _ (List.mem_of_getElem? (i := 3) rfl)
theorem qs29 : Cond.selects RX10 yX10_mightOf yX10_mightOf ∈ lw_all := ts1_all _ (List.mem_of_getElem? (i := 4) rfl)
theorem qs30 : Cond.selects RX6 yX6_writeStick yX6_writeStick ∈ lw_all := ts1_all _ (List.mem_of_getElem? (i := 5) rfl)
theorem qs31 : Cond.selects RX6 yX6_writeNumber yX6_writeNumber ∈ lw_all := ts1_all _ (List.mem_of_getElem? (i := 6) rfl)
theorem qs32 : Cond.selects RX6 yX6_writeNumbers yX6_writeNumbers ∈ lw_all := ts1_all _ (List.mem_of_getElem? (i := 7) rfl)
theorem qs33 : Cond.selects RX6 yX6_writePerson yX6_writePerson ∈ lw_all := ts1_all _ (List.mem_of_getElem? (i := 8) rfl)
theorem qs34 : Cond.selects RX12 yX12_clear yX12_clear ∈ lw_all := ts1_all _ (List.mem_of_getElem? (i := 9) rfl)
theorem qs35 : Cond.selects RX12 yX12_sets yX12_sets ∈ lw_all := ts1_all _ (List.mem_of_getElem? (i := 10) rfl)
theorem qs36 : Cond.selects RX12 yX12_atHand yX12_atHand ∈ lw_all := ts1_all _ (List.mem_of_getElem? (i := 11) rfl)
theorem qs37 : Cond.selects RX12 yX12_isLaidNoMore yX12_isLaidNoMore ∈ lw_all := ts1_all _ (List.mem_of_getElem? (i := 12) rfl)
theorem qs38 : Cond.selects RX12 yX12_feeds yX12_feeds ∈ lw_all := ts1_all _ (List.mem_of_getElem? (i := 13) rfl)
theorem qs39 : Cond.selects RX12 yX12_readAll yX12_readAll ∈ lw_all := ts1_all _ (List.mem_of_getElem? (i := 14) rfl)
theorem qs40 : Cond.selects RX12 yX12_next yX12_next ∈ lw_all := ts1_all _ (List.mem_of_getElem? (i := 15) rfl)
theorem qs41 : Cond.selects RX12 yX12_isByte yX12_isByte ∈ lw_all := ts1_all _ (List.mem_of_getElem? (i := 16) rfl)
theorem qs42 : Cond.selects RX12 yX12_nextWord yX12_nextWord ∈ lw_all := ts1_all _ (List.mem_of_getElem? (i := 17) rfl)
theorem qs43 : Cond.selects RX12 yX12_nextInt yX12_nextInt ∈ lw_all := ts1_all _ (List.mem_of_getElem? (i := 18) rfl)
theorem qs44 : Cond.selects RX12 yX12_readNumbers yX12_readNumbers ∈ lw_all := ts1_all _ (List.mem_of_getElem? (i := 19) rfl)
theorem qs45 : Cond.selects RX12 yX12_numberOf yX12_numberOf ∈ lw_all := ts1_all _ (List.mem_of_getElem? (i := 20) rfl)
theorem qs46 : Cond.selects RX12 yX12_isWord yX12_isWord ∈ lw_all := ts1_all _ (List.mem_of_getElem? (i := 21) rfl)
theorem qs47 : Cond.selects RX12 yX12_takes yX12_takes ∈ lw_all := ts1_all _ (List.mem_of_getElem? (i := 22) rfl)
theorem qs48 : Cond.selects RX12 yX12_number yX12_number ∈ lw_all := ts1_all _ (List.mem_of_getElem? (i := 23) rfl)
theorem qs49 : Cond.selects RX12 yX12_readBoat yX12_readBoat ∈ lw_all := ts1_all _ (List.mem_of_getElem? (i := 24) rfl)
theorem qs50 : Cond.selects RX12 yX12_named yX12_named ∈ lw_all := ts2_all _ (List.mem_of_getElem? (i := 0) rfl)
theorem qs51 : Cond.selects RX12 yX12_readPerson yX12_readPerson ∈ lw_all := ts2_all _ (List.mem_of_getElem? (i := 1) rfl)
theorem qs52 : Cond.selects RX12 yX12_isBoat yX12_isBoat ∈ lw_all := ts2_all _ (List.mem_of_getElem? (i := 2) rfl)
theorem qs53 : Cond.selects RX12 yX12_isOut yX12_isOut ∈ lw_all := ts2_all _ (List.mem_of_getElem? (i := 3) rfl)
theorem qs54 : Cond.selects RX12 yX12_ofBoat yX12_ofBoat ∈ lw_all := ts2_all _ (List.mem_of_getElem? (i := 4) rfl)
theorem qs55 : Cond.selects RX12 yX12_keeps yX12_keeps ∈ lw_all := ts2_all _ (List.mem_of_getElem? (i := 5) rfl)
theorem qs56 : Cond.selects RX12 yX12_of yX12_of ∈ lw_all := ts2_all _ (List.mem_of_getElem? (i := 6) rfl)
theorem qs57 : Cond.selects RX12 yX12_isAtSea yX12_isAtSea ∈ lw_all := ts2_all _ (List.mem_of_getElem? (i := 7) rfl)
theorem qs58 : Cond.selects RX12 yX12_setsBoat yX12_setsBoat ∈ lw_all := ts2_all _ (List.mem_of_getElem? (i := 8) rfl)
theorem qs59 : Cond.selects RX12 yX12_tells yX12_tells ∈ lw_all := ts2_all _ (List.mem_of_getElem? (i := 9) rfl)
theorem qs60 : Cond.selects RX12 yX12_comesHome yX12_comesHome ∈ lw_all := ts2_all _ (List.mem_of_getElem? (i := 10) rfl)
theorem qs61 : Cond.selects RX12 yX12_isPerson yX12_isPerson ∈ lw_all := ts2_all _ (List.mem_of_getElem? (i := 11) rfl)
theorem qs62 : Cond.selects RX12 yX12_isOpen yX12_isOpen ∈ lw_all := ts2_all _ (List.mem_of_getElem? (i := 12) rfl)
theorem qs63 : Cond.selects RX12 yX12_isBackFromVote yX12_isBackFromVote ∈ lw_all := ts2_all _ (List.mem_of_getElem? (i := 13) rfl)
theorem qs64 : Cond.selects RX12 yX12_isLaid yX12_isLaid ∈ lw_all := ts2_all _ (List.mem_of_getElem? (i := 14) rfl)
theorem qs65 : Cond.selects RX12 yX12_carriedBy yX12_carriedBy ∈ lw_all := ts2_all _ (List.mem_of_getElem? (i := 15) rfl)
theorem qs66 : Cond.selects RX12 yX12_would yX12_would ∈ lw_all := ts2_all _ (List.mem_of_getElem? (i := 16) rfl)
theorem qs67 : Cond.selects RX12 yX12_has yX12_has ∈ lw_all := ts2_all _ (List.mem_of_getElem? (i := 17) rfl)
theorem qs68 : Cond.selects RX12 yX12_wrongBy yX12_wrongBy ∈ lw_all := ts2_all _ (List.mem_of_getElem? (i := 18) rfl)
theorem qs69 : Cond.selects RX12 yX12_setIn yX12_setIn ∈ lw_all := ts2_all _ (List.mem_of_getElem? (i := 19) rfl)
theorem qs70 : Cond.selects RX12 yX12_isInTime yX12_isInTime ∈ lw_all := ts2_all _ (List.mem_of_getElem? (i := 20) rfl)
theorem qs71 : Cond.selects RX12 yX12_isClosed yX12_isClosed ∈ lw_all := ts2_all _ (List.mem_of_getElem? (i := 21) rfl)
theorem qs72 : Cond.selects RX12 yX12_strikes yX12_strikes ∈ lw_all := ts2_all _ (List.mem_of_getElem? (i := 22) rfl)
theorem qs73 : Cond.selects RX12 yX12_resultNow yX12_resultNow ∈ lw_all := ts2_all _ (List.mem_of_getElem? (i := 23) rfl)
theorem qs74 : Cond.selects RX12 yX12_needNow yX12_needNow ∈ lw_all := ts2_all _ (List.mem_of_getElem? (i := 24) rfl)
theorem qs75 : Cond.selects RX12 yX12_needIn0 yX12_needIn0 ∈ lw_all := ts3_all _ (List.mem_of_getElem? (i := 0) rfl)
theorem qs76 : Cond.selects RX12 yX12_outOn yX12_outOn ∈ lw_all := ts3_all _ (List.mem_of_getElem? (i := 1) rfl)
theorem qs77 : Cond.selects RX12 yX12_needOn yX12_needOn ∈ lw_all := ts3_all _ (List.mem_of_getElem? (i := 2) rfl)
theorem qs78 : Cond.selects RX12 yX12_resultOf yX12_resultOf ∈ lw_all := ts3_all _ (List.mem_of_getElem? (i := 3) rfl)
theorem qs79 : Cond.selects RX12 yX12_keepsPast yX12_keepsPast ∈ lw_all := ts3_all _ (List.mem_of_getElem? (i := 4) rfl)
theorem qs80 : Cond.selects RX12 yX12_turnout yX12_turnout ∈ lw_all := ts3_all _ (List.mem_of_getElem? (i := 5) rfl)
theorem qs81 : Cond.selects RX12 yX12_allLaid yX12_allLaid ∈ lw_all := ts3_all _ (List.mem_of_getElem? (i := 6) rfl)
theorem qs82 : Cond.selects RX12 yX12_wrongSet yX12_wrongSet ∈ lw_all := ts3_all _ (List.mem_of_getElem? (i := 7) rfl)
theorem qs83 : Cond.selects RX12 yX12_passes yX12_passes ∈ lw_all := ts3_all _ (List.mem_of_getElem? (i := 8) rfl)
theorem qs84 : Cond.selects RX12 yX12_atSeaMany yX12_atSeaMany ∈ lw_all := ts3_all _ (List.mem_of_getElem? (i := 9) rfl)
theorem qs85 : Cond.selects RX12 yX12_stateOf yX12_stateOf ∈ lw_all := ts3_all _ (List.mem_of_getElem? (i := 10) rfl)
theorem qs86 : Cond.selects RX12 yX12_struckMany yX12_struckMany ∈ lw_all := ts3_all _ (List.mem_of_getElem? (i := 11) rfl)
theorem qs87 : Cond.selects RX12 yX12_manyOf yX12_manyOf ∈ lw_all := ts3_all _ (List.mem_of_getElem? (i := 12) rfl)
theorem qs88 : Cond.selects RX12 yX12_couldBeLaid yX12_couldBeLaid ∈ lw_all := ts3_all _ (List.mem_of_getElem? (i := 13) rfl)
theorem qs89 : Cond.selects RX12 yX12_ashoreOn yX12_ashoreOn ∈ lw_all := ts3_all _ (List.mem_of_getElem? (i := 14) rfl)
theorem qs90 : Cond.selects RX12 yX12_mightOf yX12_mightOf ∈ lw_all := ts3_all _ (List.mem_of_getElem? (i := 15) rfl)
theorem qs91 : Cond.selects RX12 yX12_saysView yX12_saysView ∈ lw_all := ts3_all _ (List.mem_of_getElem? (i := 16) rfl)
theorem qs92 : Cond.selects RX12 yX12_startsText yX12_startsText ∈ lw_all := ts3_all _ (List.mem_of_getElem? (i := 17) rfl)
theorem qs93 : Cond.selects RX12 yX12_saysPerson yX12_saysPerson ∈ lw_all := ts3_all _ (List.mem_of_getElem? (i := 18) rfl)
theorem qs94 : Cond.selects RX12 yX12_saysWord yX12_saysWord ∈ lw_all := ts3_all _ (List.mem_of_getElem? (i := 19) rfl)
theorem qs95 : Cond.selects RX12 yX12_says yX12_says ∈ lw_all := ts3_all _ (List.mem_of_getElem? (i := 20) rfl)
theorem qs96 : Cond.selects RX12 yX12_saysNumber yX12_saysNumber ∈ lw_all := ts3_all _ (List.mem_of_getElem? (i := 21) rfl)
theorem qs97 : Cond.selects RX12 yX12_saysStory yX12_saysStory ∈ lw_all := ts3_all _ (List.mem_of_getElem? (i := 22) rfl)
theorem qs98 : Cond.selects RX12 yX12_saysSetup yX12_saysSetup ∈ lw_all := ts3_all _ (List.mem_of_getElem? (i := 23) rfl)
theorem qs99 : Cond.selects RX12 yX12_saysNumbers yX12_saysNumbers ∈ lw_all := ts3_all _ (List.mem_of_getElem? (i := 24) rfl)
theorem qs100 : Cond.selects RX12 yX12_saysPair yX12_saysPair ∈ lw_all := ts4_all _ (List.mem_of_getElem? (i := 0) rfl)
theorem tables_1_1_tbl : ∀ w ∈ tables_1_1, w ∈ lw_tbl := fun w h => List.mem_append_right _ (List.mem_append_left _ h)
theorem tables_1_2_tbl : ∀ w ∈ tables_1_2, w ∈ lw_tbl := fun w h => List.mem_append_right _ (List.mem_append_right _ (List.mem_append_left _ h))
theorem tables_1_3_tbl : ∀ w ∈ tables_1_3, w ∈ lw_tbl := fun w h => List.mem_append_right _ (List.mem_append_right _ (List.mem_append_right _ (List.mem_append_left _ h)))
theorem tables_1_4_tbl : ∀ w ∈ tables_1_4, w ∈ lw_tbl := fun w h => List.mem_append_right _ (List.mem_append_right _ (List.mem_append_right _ (List.mem_append_right _ (List.mem_append_left _ h))))
theorem tables_1_5_tbl : ∀ w ∈ tables_1_5, w ∈ lw_tbl := fun w h => List.mem_append_right _ (List.mem_append_right _ (List.mem_append_right _ (List.mem_append_right _ (List.mem_append_right _ (List.mem_append_left _ h)))))
theorem tables_1_6_tbl : ∀ w ∈ tables_1_6, w ∈ lw_tbl := fun w h => List.mem_append_right _ (List.mem_append_right _ (List.mem_append_right _ (List.mem_append_right _ (List.mem_append_right _ (List.mem_append_right _ (List.mem_append_left _ h))))))
theorem tables_1_7_tbl : ∀ w ∈ tables_1_7, w ∈ lw_tbl := fun w h => List.mem_append_right _ (List.mem_append_right _ (List.mem_append_right _ (List.mem_append_right _ (List.mem_append_right _ (List.mem_append_right _ (List.mem_append_right _ (List.mem_append_left _ h)))))))
theorem tables_1_8_tbl : ∀ w ∈ tables_1_8, w ∈ lw_tbl := fun w h => List.mem_append_right _ (List.mem_append_right _ (List.mem_append_right _ (List.mem_append_right _ (List.mem_append_right _ (List.mem_append_right _ (List.mem_append_right _ (List.mem_append_right _ (List.mem_append_left _ h))))))))
theorem tables_1_9_tbl : ∀ w ∈ tables_1_9, w ∈ lw_tbl := fun w h => List.mem_append_right _ (List.mem_append_right _ (List.mem_append_right _ (List.mem_append_right _ (List.mem_append_right _ (List.mem_append_right _ (List.mem_append_right _ (List.mem_append_right _ (List.mem_append_right _ (h)))))))))
theorem lw_all_tbl : ∀ w ∈ lw_all, w ∈ lw_tbl := List.forall_mem_append.mpr ⟨List.forall_mem_append.mpr ⟨List.forall_mem_append.mpr ⟨List.forall_mem_append.mpr ⟨List.forall_mem_append.mpr ⟨List.forall_mem_append.mpr ⟨fun w h => tables_1_1_tbl w (tt0_in w h), fun w h => tables_1_1_tbl w (tt1_in w h)⟩, List.forall_mem_append.mpr ⟨fun w h => tables_1_1_tbl w (tt2_in w h), fun w h => tables_1_1_tbl w (tt3_in w h)⟩⟩, List.forall_mem_append.mpr ⟨List.forall_mem_append.mpr ⟨fun w h => tables_1_1_tbl w (tt4_in w h), fun w h => tables_1_1_tbl w (tt5_in w h)⟩, List.forall_mem_append.mpr ⟨fun w h => tables_1_1_tbl w (tt6_in w h), List.forall_mem_append.mpr ⟨fun w h => tables_1_1_tbl w (tt7_in w h), fun w h => tables_1_2_tbl w (tt8_in w h)⟩⟩⟩⟩, List.forall_mem_append.mpr ⟨List.forall_mem_append.mpr ⟨List.forall_mem_append.mpr ⟨fun w h => tables_1_2_tbl w (tt9_in w h), fun w h => tables_1_2_tbl w (tt10_in w h)⟩, List.forall_mem_append.mpr ⟨fun w h => tables_1_2_tbl w (tt11_in w h), List.forall_mem_append.mpr ⟨fun w h => tables_1_2_tbl w (tt12_in w h), fun w h => tables_1_2_tbl w (tt13_in w h)⟩⟩⟩, List.forall_mem_append.mpr ⟨List.forall_mem_append.mpr ⟨fun w h => tables_1_2_tbl w (tt14_in w h), fun w h => tables_1_2_tbl w (tt15_in w h)⟩, List.forall_mem_append.mpr ⟨fun w h => tables_1_3_tbl w (tt16_in w h), List.forall_mem_append.mpr ⟨fun w h => tables_1_3_tbl w (tt17_in w h), fun w h => tables_1_3_tbl w (tt18_in w h)⟩⟩⟩⟩⟩, List.forall_mem_append.mpr ⟨List.forall_mem_append.mpr ⟨List.forall_mem_append.mpr ⟨List.forall_mem_append.mpr ⟨fun w h => tables_1_3_tbl w (tt19_in w h), fun w h => tables_1_3_tbl w (tt20_in w h)⟩, List.forall_mem_append.mpr ⟨fun w h => tables_1_3_tbl w (tt21_in w h), fun w h => tables_1_3_tbl w (tt22_in w h)⟩⟩, List.forall_mem_append.mpr ⟨List.forall_mem_append.mpr ⟨fun w h => tables_1_3_tbl w (tt23_in w h), fun w h => tables_1_3_tbl w (tt24_in w h)⟩, List.forall_mem_append.mpr ⟨fun w h => tables_1_4_tbl w (tt25_in w h), List.forall_mem_append.mpr ⟨fun w h => tables_1_4_tbl w (tt26_in w h), fun w h => tables_1_4_tbl w (tt27_in w h)⟩⟩⟩⟩, List.forall_mem_append.mpr ⟨List.forall_mem_append.mpr ⟨List.forall_mem_append.mpr ⟨fun w h => tables_1_4_tbl w (tt28_in w h), fun w h => tables_1_4_tbl w (tt29_in w h)⟩, List.forall_mem_append.mpr ⟨fun w h => tables_1_4_tbl w (tt30_in w h), List.forall_mem_append.mpr ⟨fun w h => tables_1_4_tbl w (tt31_in w h), fun w h => tables_1_4_tbl w (tt32_in w h)⟩⟩⟩, List.forall_mem_append.mpr ⟨List.forall_mem_append.mpr ⟨fun w h => tables_1_4_tbl w (tt33_in w h), fun w h => tables_1_4_tbl w (tt34_in w h)⟩, List.forall_mem_append.mpr ⟨fun w h => tables_1_5_tbl w (tt35_in w h), List.forall_mem_append.mpr ⟨fun w h => tables_1_5_tbl w (tt36_in w h), fun w h => tables_1_5_tbl w (tt37_in w h)⟩⟩⟩⟩⟩⟩, List.forall_mem_append.mpr ⟨List.forall_mem_append.mpr ⟨List.forall_mem_append.mpr ⟨List.forall_mem_append.mpr ⟨List.forall_mem_append.mpr ⟨fun w h => tables_1_5_tbl w (tt38_in w h), fun w h => tables_1_5_tbl w (tt39_in w h)⟩, List.forall_mem_append.mpr ⟨fun w h => tables_1_5_tbl w (tt40_in w h), fun w h => tables_1_5_tbl w (tt41_in w h)⟩⟩, List.forall_mem_append.mpr ⟨List.forall_mem_append.mpr ⟨fun w h => tables_1_5_tbl w (tt42_in w h), fun w h => tables_1_5_tbl w (tt43_in w h)⟩, List.forall_mem_append.mpr ⟨fun w h => tables_1_5_tbl w (tt44_in w h), List.forall_mem_append.mpr ⟨fun w h => tables_1_6_tbl w (tt45_in w h), fun w h => tables_1_6_tbl w (tt46_in w h)⟩⟩⟩⟩, List.forall_mem_append.mpr ⟨List.forall_mem_append.mpr ⟨List.forall_mem_append.mpr ⟨fun w h => tables_1_6_tbl w (tt47_in w h), fun w h => tables_1_6_tbl w (tt48_in w h)⟩, List.forall_mem_append.mpr ⟨fun w h => tables_1_6_tbl w (tt49_in w h), List.forall_mem_append.mpr ⟨fun w h => tables_1_6_tbl w (tt50_in w h), fun w h => tables_1_6_tbl w (tt51_in w h)⟩⟩⟩, List.forall_mem_append.mpr ⟨List.forall_mem_append.mpr ⟨fun w h => tables_1_6_tbl w (tt52_in w h), fun w h => tables_1_7_tbl w (tt53_in w h)⟩, List.forall_mem_append.mpr ⟨fun w h => tables_1_7_tbl w (tt54_in w h), List.forall_mem_append.mpr ⟨fun w h => tables_1_7_tbl w (tt55_in w h), fun w h => tables_1_7_tbl w (tt56_in w h)⟩⟩⟩⟩⟩, List.forall_mem_append.mpr ⟨List.forall_mem_append.mpr ⟨List.forall_mem_append.mpr ⟨List.forall_mem_append.mpr ⟨fun w h => tables_1_7_tbl w (tt57_in w h), fun w h => tables_1_7_tbl w (tt58_in w h)⟩, List.forall_mem_append.mpr ⟨fun w h => tables_1_7_tbl w (tt59_in w h), List.forall_mem_append.mpr ⟨fun w h => tables_1_7_tbl w (tt60_in w h), fun w h => tables_1_8_tbl w (tt61_in w h)⟩⟩⟩, List.forall_mem_append.mpr ⟨List.forall_mem_append.mpr ⟨fun w h => tables_1_8_tbl w (tt62_in w h), fun w h => tables_1_8_tbl w (tt63_in w h)⟩, List.forall_mem_append.mpr ⟨fun w h => tables_1_8_tbl w (tt64_in w h), List.forall_mem_append.mpr ⟨fun w h => tables_1_8_tbl w (tt65_in w h), fun w h => tables_1_8_tbl w (tt66_in w h)⟩⟩⟩⟩, List.forall_mem_append.mpr ⟨List.forall_mem_append.mpr ⟨List.forall_mem_append.mpr ⟨fun w h => tables_1_8_tbl w (tt67_in w h), fun w h => tables_1_8_tbl w (tt68_in w h)⟩, List.forall_mem_append.mpr ⟨fun w h => tables_1_8_tbl w (tt69_in w h), List.forall_mem_append.mpr ⟨fun w h => tables_1_9_tbl w (tt70_in w h), fun w h => tables_1_9_tbl w (tt71_in w h)⟩⟩⟩, List.forall_mem_append.mpr ⟨List.forall_mem_append.mpr ⟨fun w h => List.mem_append_left _ (ts0_in w h), fun w h => List.mem_append_left _ (ts1_in w h)⟩, List.forall_mem_append.mpr ⟨fun w h => List.mem_append_left _ (ts2_in w h), List.forall_mem_append.mpr ⟨fun w h => List.mem_append_left _ (ts3_in w h), fun w h => List.mem_append_left _ (ts4_in w h)⟩⟩⟩⟩⟩⟩⟩
theorem lw_good : ∀ w ∈ lw_all, goodWord w = true := List.forall_mem_append.mpr ⟨List.forall_mem_append.mpr ⟨List.forall_mem_append.mpr ⟨List.forall_mem_append.mpr ⟨List.forall_mem_append.mpr ⟨List.forall_mem_append.mpr ⟨(List.all_eq_true.mp (by rfl : tt0.all goodWord = true)), (List.all_eq_true.mp (by rfl : tt1.all goodWord = true))⟩, List.forall_mem_append.mpr ⟨(List.all_eq_true.mp (by rfl : tt2.all goodWord = true)), (List.all_eq_true.mp (by rfl : tt3.all goodWord = true))⟩⟩, List.forall_mem_append.mpr ⟨List.forall_mem_append.mpr ⟨(List.all_eq_true.mp (by rfl : tt4.all goodWord = true)), (List.all_eq_true.mp (by rfl : tt5.all goodWord = true))⟩, List.forall_mem_append.mpr ⟨(List.all_eq_true.mp (by rfl : tt6.all goodWord = true)), List.forall_mem_append.mpr ⟨(List.all_eq_true.mp (by rfl : tt7.all goodWord = true)), (List.all_eq_true.mp (by rfl : tt8.all goodWord = true))⟩⟩⟩⟩, List.forall_mem_append.mpr ⟨List.forall_mem_append.mpr ⟨List.forall_mem_append.mpr ⟨(List.all_eq_true.mp (by rfl : tt9.all goodWord = true)), (List.all_eq_true.mp (by rfl : tt10.all goodWord = true))⟩, List.forall_mem_append.mpr ⟨(List.all_eq_true.mp (by rfl : tt11.all goodWord = true)), List.forall_mem_append.mpr ⟨(List.all_eq_true.mp (by rfl : tt12.all goodWord = true)), (List.all_eq_true.mp (by rfl : tt13.all goodWord = true))⟩⟩⟩, List.forall_mem_append.mpr ⟨List.forall_mem_append.mpr ⟨(List.all_eq_true.mp (by rfl : tt14.all goodWord = true)), (List.all_eq_true.mp (by rfl : tt15.all goodWord = true))⟩, List.forall_mem_append.mpr ⟨(List.all_eq_true.mp (by rfl : tt16.all goodWord = true)), List.forall_mem_append.mpr ⟨(List.all_eq_true.mp (by rfl : tt17.all goodWord = true)), (List.all_eq_true.mp (by rfl : tt18.all goodWord = true))⟩⟩⟩⟩⟩, List.forall_mem_append.mpr ⟨List.forall_mem_append.mpr ⟨List.forall_mem_append.mpr ⟨List.forall_mem_append.mpr ⟨(List.all_eq_true.mp (by rfl : tt19.all goodWord = true)), (List.all_eq_true.mp (by rfl : tt20.all goodWord = true))⟩, List.forall_mem_append.mpr ⟨(List.all_eq_true.mp (by rfl : tt21.all goodWord = true)), (List.all_eq_true.mp (by rfl : tt22.all goodWord = true))⟩⟩, List.forall_mem_append.mpr ⟨List.forall_mem_append.mpr ⟨(List.all_eq_true.mp (by rfl : tt23.all goodWord = true)), (List.all_eq_true.mp (by rfl : tt24.all goodWord = true))⟩, List.forall_mem_append.mpr ⟨(List.all_eq_true.mp (by rfl : tt25.all goodWord = true)), List.forall_mem_append.mpr ⟨(List.all_eq_true.mp (by rfl : tt26.all goodWord = true)), (List.all_eq_true.mp (by rfl : tt27.all goodWord = true))⟩⟩⟩⟩, List.forall_mem_append.mpr ⟨List.forall_mem_append.mpr ⟨List.forall_mem_append.mpr ⟨(List.all_eq_true.mp (by rfl : tt28.all goodWord = true)), (List.all_eq_true.mp (by rfl : tt29.all goodWord = true))⟩, List.forall_mem_append.mpr ⟨(List.all_eq_true.mp (by rfl : tt30.all goodWord = true)), List.forall_mem_append.mpr ⟨(List.all_eq_true.mp (by rfl : tt31.all goodWord = true)), (List.all_eq_true.mp (by rfl : tt32.all goodWord = true))⟩⟩⟩, List.forall_mem_append.mpr ⟨List.forall_mem_append.mpr ⟨(List.all_eq_true.mp (by rfl : tt33.all goodWord = true)), (List.all_eq_true.mp (by rfl : tt34.all goodWord = true))⟩, List.forall_mem_append.mpr ⟨(List.all_eq_true.mp (by rfl : tt35.all goodWord = true)), List.forall_mem_append.mpr ⟨(List.all_eq_true.mp (by rfl : tt36.all goodWord = true)), (List.all_eq_true.mp (by rfl : tt37.all goodWord = true))⟩⟩⟩⟩⟩⟩, List.forall_mem_append.mpr ⟨List.forall_mem_append.mpr ⟨List.forall_mem_append.mpr ⟨List.forall_mem_append.mpr ⟨List.forall_mem_append.mpr ⟨(List.all_eq_true.mp (by rfl : tt38.all goodWord = true)), (List.all_eq_true.mp (by rfl : tt39.all goodWord = true))⟩, List.forall_mem_append.mpr ⟨(List.all_eq_true.mp (by rfl : tt40.all goodWord = true)), (List.all_eq_true.mp (by rfl : tt41.all goodWord = true))⟩⟩, List.forall_mem_append.mpr ⟨List.forall_mem_append.mpr ⟨(List.all_eq_true.mp (by rfl : tt42.all goodWord = true)), (List.all_eq_true.mp (by rfl : tt43.all goodWord = true))⟩, List.forall_mem_append.mpr ⟨(List.all_eq_true.mp (by rfl : tt44.all goodWord = true)), List.forall_mem_append.mpr ⟨(List.all_eq_true.mp (by rfl : tt45.all goodWord = true)), (List.all_eq_true.mp (by rfl : tt46.all goodWord = true))⟩⟩⟩⟩, List.forall_mem_append.mpr ⟨List.forall_mem_append.mpr ⟨List.forall_mem_append.mpr ⟨(List.all_eq_true.mp (by rfl : tt47.all goodWord = true)), (List.all_eq_true.mp (by rfl : tt48.all goodWord = true))⟩, List.forall_mem_append.mpr ⟨(List.all_eq_true.mp (by rfl : tt49.all goodWord = true)), List.forall_mem_append.mpr ⟨(List.all_eq_true.mp (by rfl : tt50.all goodWord = true)), (List.all_eq_true.mp (by rfl : tt51.all goodWord = true))⟩⟩⟩, List.forall_mem_append.mpr ⟨List.forall_mem_append.mpr ⟨(List.all_eq_true.mp (by rfl : tt52.all goodWord = true)), (List.all_eq_true.mp (by rfl : tt53.all goodWord = true))⟩, List.forall_mem_append.mpr ⟨(List.all_eq_true.mp (by rfl : tt54.all goodWord = true)), List.forall_mem_append.mpr ⟨(List.all_eq_true.mp (by rfl : tt55.all goodWord = true)), (List.all_eq_true.mp (by rfl : tt56.all goodWord = true))⟩⟩⟩⟩⟩, List.forall_mem_append.mpr ⟨List.forall_mem_append.mpr ⟨List.forall_mem_append.mpr ⟨List.forall_mem_append.mpr ⟨(List.all_eq_true.mp (by rfl : tt57.all goodWord = true)), (List.all_eq_true.mp (by rfl : tt58.all goodWord = true))⟩, List.forall_mem_append.mpr ⟨(List.all_eq_true.mp (by rfl : tt59.all goodWord = true)), List.forall_mem_append.mpr ⟨(List.all_eq_true.mp (by rfl : tt60.all goodWord = true)), (List.all_eq_true.mp (by rfl : tt61.all goodWord = true))⟩⟩⟩, List.forall_mem_append.mpr ⟨List.forall_mem_append.mpr ⟨(List.all_eq_true.mp (by rfl : tt62.all goodWord = true)), (List.all_eq_true.mp (by rfl : tt63.all goodWord = true))⟩, List.forall_mem_append.mpr ⟨(List.all_eq_true.mp (by rfl : tt64.all goodWord = true)), List.forall_mem_append.mpr ⟨(List.all_eq_true.mp (by rfl : tt65.all goodWord = true)), (List.all_eq_true.mp (by rfl : tt66.all goodWord = true))⟩⟩⟩⟩, List.forall_mem_append.mpr ⟨List.forall_mem_append.mpr ⟨List.forall_mem_append.mpr ⟨(List.all_eq_true.mp (by rfl : tt67.all goodWord = true)), (List.all_eq_true.mp (by rfl : tt68.all goodWord = true))⟩, List.forall_mem_append.mpr ⟨(List.all_eq_true.mp (by rfl : tt69.all goodWord = true)), List.forall_mem_append.mpr ⟨(List.all_eq_true.mp (by rfl : tt70.all goodWord = true)), (List.all_eq_true.mp (by rfl : tt71.all goodWord = true))⟩⟩⟩, List.forall_mem_append.mpr ⟨List.forall_mem_append.mpr ⟨(List.all_eq_true.mp (by rfl : ts0.all goodWord = true)), (List.all_eq_true.mp (by rfl : ts1.all goodWord = true))⟩, List.forall_mem_append.mpr ⟨(List.all_eq_true.mp (by rfl : ts2.all goodWord = true)), List.forall_mem_append.mpr ⟨(List.all_eq_true.mp (by rfl : ts3.all goodWord = true)), (List.all_eq_true.mp (by rfl : ts4.all goodWord = true))⟩⟩⟩⟩⟩⟩⟩
theorem inX0 : ∀ w ∈ u_ws RX0 TX0 2, w ∈ lw_all := by
  intro w hw
  obtain ⟨k, hk, rfl⟩ := List.mem_map.mp hw
  have hk := List.mem_range.mp hk
  match k, hk with
  | 0, _ => exact qw244
  | 1, _ => exact qw246
  | k + 2, hk => exact absurd hk (by omega)
theorem inX1 : ∀ w ∈ u_ws RX1 TX1 2, w ∈ lw_all := by
  intro w hw
  obtain ⟨k, hk, rfl⟩ := List.mem_map.mp hw
  have hk := List.mem_range.mp hk
  match k, hk with
  | 0, _ => exact qw46
  | 1, _ => exact qw48
  | k + 2, hk => exact absurd hk (by omega)
theorem inX2 : ∀ w ∈ u_ws RX2 TX2 6, w ∈ lw_all := by
  intro w hw
  obtain ⟨k, hk, rfl⟩ := List.mem_map.mp hw
  have hk := List.mem_range.mp hk
  match k, hk with
  | 0, _ => exact qw122
  | 1, _ => exact qw124
  | 2, _ => exact qw126
  | 3, _ => exact qw128
  | 4, _ => exact qw130
  | 5, _ => exact qw132
  | k + 6, hk => exact absurd hk (by omega)
theorem inX3 : ∀ w ∈ u_ws RX3 TX3 3, w ∈ lw_all := by
  intro w hw
  obtain ⟨k, hk, rfl⟩ := List.mem_map.mp hw
  have hk := List.mem_range.mp hk
  match k, hk with
  | 0, _ => exact qw273
  | 1, _ => exact qw275
  | 2, _ => exact qw277
  | k + 3, hk => exact absurd hk (by omega)
theorem inX4 : ∀ w ∈ u_ws RX4 TX4 5, w ∈ lw_all := by
  intro w hw
  obtain ⟨k, hk, rfl⟩ := List.mem_map.mp hw
  have hk := List.mem_range.mp hk
  match k, hk with
  | 0, _ => exact qw85
  | 1, _ => exact qw87
  | 2, _ => exact qw89
  | 3, _ => exact qw91
  | 4, _ => exact qw93
  | k + 5, hk => exact absurd hk (by omega)
theorem inX5 : ∀ w ∈ u_ws RX5 TX5 3, w ∈ lw_all := by
  intro w hw
  obtain ⟨k, hk, rfl⟩ := List.mem_map.mp hw
  have hk := List.mem_range.mp hk
  match k, hk with
  | 0, _ => exact qw170
  | 1, _ => exact qw172
  | 2, _ => exact qw174
  | k + 3, hk => exact absurd hk (by omega)
theorem inX6 : ∀ w ∈ u_ws RX6 TX6 1, w ∈ lw_all := by
  intro w hw
  obtain ⟨k, hk, rfl⟩ := List.mem_map.mp hw
  have hk := List.mem_range.mp hk
  match k, hk with
  | 0, _ => exact qw291
  | k + 1, hk => exact absurd hk (by omega)
theorem inX7 : ∀ w ∈ u_ws RX7 TX7 6, w ∈ lw_all := by
  intro w hw
  obtain ⟨k, hk, rfl⟩ := List.mem_map.mp hw
  have hk := List.mem_range.mp hk
  match k, hk with
  | 0, _ => exact qw64
  | 1, _ => exact qw66
  | 2, _ => exact qw68
  | 3, _ => exact qw70
  | 4, _ => exact qw72
  | 5, _ => exact qw74
  | k + 6, hk => exact absurd hk (by omega)
theorem inX8 : ∀ w ∈ u_ws RX8 TX8 12, w ∈ lw_all := by
  intro w hw
  obtain ⟨k, hk, rfl⟩ := List.mem_map.mp hw
  have hk := List.mem_range.mp hk
  match k, hk with
  | 0, _ => exact qw211
  | 1, _ => exact qw213
  | 2, _ => exact qw215
  | 3, _ => exact qw217
  | 4, _ => exact qw219
  | 5, _ => exact qw221
  | 6, _ => exact qw223
  | 7, _ => exact qw225
  | 8, _ => exact qw227
  | 9, _ => exact qw229
  | 10, _ => exact qw231
  | 11, _ => exact qw233
  | k + 12, hk => exact absurd hk (by omega)
theorem inX9 : ∀ w ∈ u_ws RX9 TX9 6, w ∈ lw_all := by
  intro w hw
  obtain ⟨k, hk, rfl⟩ := List.mem_map.mp hw
  have hk := List.mem_range.mp hk
  match k, hk with
  | 0, _ => exact qw147
  | 1, _ => exact qw149
  | 2, _ => exact qw151
  | 3, _ => exact qw153
  | 4, _ => exact qw155
  | 5, _ => exact qw157
  | k + 6, hk => exact absurd hk (by omega)
theorem inX10 : ∀ w ∈ u_ws RX10 TX10 3, w ∈ lw_all := by
  intro w hw
  obtain ⟨k, hk, rfl⟩ := List.mem_map.mp hw
  have hk := List.mem_range.mp hk
  match k, hk with
  | 0, _ => exact qw254
  | 1, _ => exact qw256
  | 2, _ => exact qw258
  | k + 3, hk => exact absurd hk (by omega)
theorem inX11 : ∀ w ∈ u_ws RX11 TX11 10, w ∈ lw_all := by
  intro w hw
  obtain ⟨k, hk, rfl⟩ := List.mem_map.mp hw
  have hk := List.mem_range.mp hk
  match k, hk with
  | 0, _ => exact qw365
  | 1, _ => exact qw367
  | 2, _ => exact qw369
  | 3, _ => exact qw371
  | 4, _ => exact qw373
  | 5, _ => exact qw375
  | 6, _ => exact qw377
  | 7, _ => exact qw379
  | 8, _ => exact qw381
  | 9, _ => exact qw383
  | k + 10, hk => exact absurd hk (by omega)
theorem inX12 : ∀ w ∈ u_ws RX12 TX12 30, w ∈ lw_all := by
  intro w hw
  obtain ⟨k, hk, rfl⟩ := List.mem_map.mp hw
  have hk := List.mem_range.mp hk
  match k, hk with
  | 0, _ => exact qw1404
  | 1, _ => exact qw1406
  | 2, _ => exact qw1408
  | 3, _ => exact qw1410
  | 4, _ => exact qw1412
  | 5, _ => exact qw1414
  | 6, _ => exact qw1416
  | 7, _ => exact qw1418
  | 8, _ => exact qw1420
  | 9, _ => exact qw1422
  | 10, _ => exact qw1424
  | 11, _ => exact qw1426
  | 12, _ => exact qw1428
  | 13, _ => exact qw1430
  | 14, _ => exact qw1432
  | 15, _ => exact qw1434
  | 16, _ => exact qw1436
  | 17, _ => exact qw1438
  | 18, _ => exact qw1440
  | 19, _ => exact qw1442
  | 20, _ => exact qw1444
  | 21, _ => exact qw1446
  | 22, _ => exact qw1448
  | 23, _ => exact qw1450
  | 24, _ => exact qw1452
  | 25, _ => exact qw1454
  | 26, _ => exact qw1456
  | 27, _ => exact qw1458
  | 28, _ => exact qw1460
  | 29, _ => exact qw1462
  | k + 30, hk => exact absurd hk (by omega)
