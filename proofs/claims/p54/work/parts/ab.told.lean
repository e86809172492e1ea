/-! THE LAW: told -/
def TXT (v : VT) (n0 n1 n2 : Nat) : Prop := (a_viewLength v = nI n0 ∧ n0 ≤ 2048 ∧ ∀ j, j < n0 → asc (a_viewByte v (nI j))) ∧ (a_storyLength v = nI n1 ∧ n1 ≤ 2048 ∧ ∀ j, j < n1 → asc (a_storyByte v (nI j))) ∧ (a_setupLength v = nI n2 ∧ n2 ≤ 2048 ∧ ∀ j, j < n2 → asc (a_setupByte v (nI j)))
noncomputable def txL (v : VT) (n0 n1 n2 : Nat) : List Int32 := (((List.range n0).map (fun j => a_viewByte v (nI j))) ++ (List.range n1).map (fun j => a_storyByte v (nI j))) ++ (List.range n2).map (fun j => a_setupByte v (nI j))
noncomputable def tIn (v : VT) (p : Nat) (L : List Int32) (k : Nat) : List Int32 := iter_ (fun k L => (((L ++ strByt.getD 38 []) ++ decL (a_person v (nI p) (nI k))) ++ strByt.getD 38 []) ++ decL (a_stick v (nI p) (mn (nI k) 5))) L k
noncomputable def tPe (v : VT) (L : List Int32) (p : Nat) : List Int32 := iter_ (fun p L => tIn v p L 7) L p
noncomputable def tBi (v : VT) (b : Nat) (L : List Int32) (k : Nat) : List Int32 := iter_ (fun k L => (L ++ strByt.getD 38 []) ++ decL (a_boat v (nI b) (nI k))) L k
noncomputable def tBo (v : VT) (L : List Int32) (b : Nat) : List Int32 := iter_ (fun b L => tBi v b L 5) L b
noncomputable def tVa (v : VT) (L : List Int32) (k : Nat) : List Int32 := iter_ (fun k L => (((((L ++ strByt.getD 38 []) ++ decL (a_value v (nI k))) ++ strByt.getD 38 []) ++ decL (a_past v (nI k) 1)) ++ strByt.getD 38 []) ++ decL (a_past v (nI k) 3)) L k
/-- all that is told of a state -/
noncomputable def tolL (v : VT) (n0 n1 n2 P B : Nat) : List Int32 := tVa v (tBo v (tPe v (txL v n0 n1 n2) P) B) 17
theorem tVa_s {v : VT} {L : List Int32} {k : Nat} : tVa v L (k + 1) = (((((tVa v L k ++ strByt.getD 38 []) ++ decL (a_value v (nI k))) ++ strByt.getD 38 []) ++ decL (a_past v (nI k) 1)) ++ strByt.getD 38 []) ++ decL (a_past v (nI k) 3) := iter_s _ _ _
theorem tBi_s {v : VT} {b : Nat} {L : List Int32} {k : Nat} : tBi v b L (k + 1) = (tBi v b L k ++ strByt.getD 38 []) ++ decL (a_boat v (nI b) (nI k)) := iter_s _ _ _
theorem tIn_s {v : VT} {p : Nat} {L : List Int32} {k : Nat} : tIn v p L (k + 1) = (((tIn v p L k ++ strByt.getD 38 []) ++ decL (a_person v (nI p) (nI k))) ++ strByt.getD 38 []) ++ decL (a_stick v (nI p) (mn (nI k) 5)) := iter_s _ _ _
theorem tBo_s {v : VT} {L : List Int32} {b : Nat} : tBo v L (b + 1) = tBi v b (tBo v L b) 5 := iter_s _ _ _
theorem tPe_s {v : VT} {L : List Int32} {p : Nat} : tPe v L (p + 1) = tIn v p (tPe v L p) 7 := iter_s _ _ _
theorem lit_asc38 : ∀ x ∈ strByt.getD 38 [], asc x := show ∀ x ∈ strByt.getD 38 [], (0 : Int32) ≤ x ∧ x < 128 by decide
def toldQ (D : va_G) (A : Nat → Prop) (α : Nat → Nat) (w0 : va_W) (v : VT) (LL : List Int32) : Array Value → State → Outcome → State → Prop := gG A (fun V H H1 => ∃ (a v1 n : Nat) (f1 : Nat → Int32) (w1 : va_W), V = some (.ref a) ∧ BC f1 n LL ∧ n ≤ 10476 ∧ 234 ≤ w1.length ∧ OB D α w1 v ∧ Same w0 w1 0 234 ∧ va_P D vwCl (w1 ++ stW D a v1 n f1) H1 ∧ va_D A (w1 ++ stW D a v1 n f1))
theorem ldS_31 {D : va_G} {A : Nat → Prop} {U : State} {H : Heap} (hE : EV D A U H) : vk_R RL 48 "season " (D.2 200 30) U := hE.2.2.1 (RL, 48, "season ", 30) (List.mem_of_getElem? (i := 31) rfl)
theorem ldS_32 {D : va_G} {A : Nat → Prop} {U : State} {H : Heap} (hE : EV D A U H) : vk_R RL 60 " shares " (D.2 200 31) U := hE.2.2.1 (RL, 60, " shares ", 31) (List.mem_of_getElem? (i := 32) rfl)
theorem ldS_33 {D : va_G} {A : Nat → Prop} {U : State} {H : Heap} (hE : EV D A U H) : vk_R RL 68 " less " (D.2 200 32) U := hE.2.2.1 (RL, 68, " less ", 32) (List.mem_of_getElem? (i := 33) rfl)
theorem ldS_34 {D : va_G} {A : Nat → Prop} {U : State} {H : Heap} (hE : EV D A U H) : vk_R RL 70 " least " (D.2 200 33) U := hE.2.2.1 (RL, 70, " least ", 33) (List.mem_of_getElem? (i := 34) rfl)
theorem ldS_35 {D : va_G} {A : Nat → Prop} {U : State} {H : Heap} (hE : EV D A U H) : vk_R RL 72 " carry " (D.2 200 34) U := hE.2.2.1 (RL, 72, " carry ", 34) (List.mem_of_getElem? (i := 35) rfl)
theorem ldS_36 {D : va_G} {A : Nat → Prop} {U : State} {H : Heap} (hE : EV D A U H) : vk_R RL 74 " appeal " (D.2 200 35) U := hE.2.2.1 (RL, 74, " appeal ", 35) (List.mem_of_getElem? (i := 36) rfl)
theorem ldS_37 {D : va_G} {A : Nat → Prop} {U : State} {H : Heap} (hE : EV D A U H) : vk_R RL 76 " recounts " (D.2 200 36) U := hE.2.2.1 (RL, 76, " recounts ", 36) (List.mem_of_getElem? (i := 37) rfl)
theorem ldS_38 {D : va_G} {A : Nat → Prop} {U : State} {H : Heap} (hE : EV D A U H) : vk_R RL 78 ";" (D.2 200 37) U := hE.2.2.1 (RL, 78, ";", 37) (List.mem_of_getElem? (i := 38) rfl)
theorem ldS_39 {D : va_G} {A : Nat → Prop} {U : State} {H : Heap} (hE : EV D A U H) : vk_R RL 80 "boat " (D.2 200 27) U := hE.2.2.1 (RL, 80, "boat ", 27) (List.mem_of_getElem? (i := 39) rfl)
theorem ldS_40 {D : va_G} {A : Nat → Prop} {U : State} {H : Heap} (hE : EV D A U H) : vk_R RL 82 "person " (D.2 200 28) U := hE.2.2.1 (RL, 82, "person ", 28) (List.mem_of_getElem? (i := 40) rfl)
theorem ldS_41 {D : va_G} {A : Nat → Prop} {U : State} {H : Heap} (hE : EV D A U H) : vk_R RL 85 " of " (D.2 200 29) U := hE.2.2.1 (RL, 85, " of ", 29) (List.mem_of_getElem? (i := 41) rfl)
theorem ldS_42 {D : va_G} {A : Nat → Prop} {U : State} {H : Heap} (hE : EV D A U H) : vk_R RL 216 " " (D.2 200 38) U := hE.2.2.1 (RL, 216, " ", 38) (List.mem_of_getElem? (i := 42) rfl)
section TD
variable {pg : Program} {l : Launch} {en : Env} {s : State} {mi : MethodId} {ar : Array Value} {below : List Frame} {me : Method} {co : Code} {H : Heap} {locs : List Loc} {Z : State → Prop} {ls : Array Slot} {D : va_G} {A : Nat → Prop} {α : Nat → Nat} {w0 u : va_W} {v : VT} {N P B Q : Nat} {b v1 m n : Nat} {f : Nat → Int32} {L LL : List Int32}
set_option maxHeartbeats 4000000 in
set_option maxRecDepth 100000 in
theorem tl_v (S : CallFix pg mi co cL_told 4 s ar lw_all RL) (hK : va_K D vwCl (gTys D) s) (hE : EV D A s s.heap) (hA : ∀ q, s.heap.size ≤ q → A q) (hG : DGf A s s.heap) (hC : CN s) (hr : me.sig.returnType = some (.object "java/lang/String")) (hlk : me.locks = false) (hR : RA N P B Q v) (hN : N ≤ 600) {L0 : List Int32} (hLL : tVa v L0 17 = LL) (r k : Nat) (hP : va_P D vwCl (u ++ sbW D b v1 m f n) H) (hD : va_D A (u ++ sbW D b v1 m f n)) (hS : va_S A s.heap H locs) (hB : OB D α u v) (hu : 234 ≤ u.length) (hs0 : Same w0 u 0 234) (hf : fbt f) (hn : n ≤ m) (h16 : 16 ≤ m) (hm : m ≤ 20954) (hL : BC f n L) (hl : lv_has ls 4 [(0, .ref (α 0)), (1, .ref b), (2, .int (nI k))]) (hk : k + r = 17) (hb : n ≤ 9864 + 36 * k) (hK2 : tVa v L0 k = L) : W pg l en ({ frames := 11, cells := 2100, slots := 83200, locals := 340 } : Room) s mi ar below me co H locs (782 + m / 16) (30808 + 2 * m) (MQ below (toldQ D A α w0 v LL) ar s 2100 83200 A) (F0 mi 142 ls []) := by
  induction r generalizing k L n m f v1 u H locs ls with
  | zero =>
    have hk : k = 17 := hk
    subst hk
    refine lv_iload_n S.1 S.2.1 dL_told_142 rfl (lv_at hl 2 rfl) ?_
    refine lv_bipush (v := 17) S.1 S.2.1 dL_told_143 (by decide) ?_
    refine lv_icmp_ge (tgt := 197) S.1 S.2.1 dL_told_145 (by decide) (fun _ => ?_) (fun z9 => absurd (Int32.le_refl _) z9)
    refine lv_aload_n S.1 S.2.1 dL_told_197 rfl (lv_at hl 1 rfl) ?_
    refine sb_ts S qw1031 hK hP hD hE hS hA hC hf hn (by omega) hl.1 (Nat.le_of_ble_eq_true rfl) ⟨(Nat.le_of_ble_eq_true rfl), (Nat.le_of_ble_eq_true rfl)⟩ ⟨(by show 782 + m / 16 + 2 ≤ 2100; omega), (by show 30808 + 2 * m + (4 + n) ≤ 83200; omega)⟩ dL_told_198 (fun H locs a v2 f1 hf1 hP hD hS hz hk => ?_)
    refine W.more (cells' := 2100) (slots' := 83200) ?_ (by omega) (by omega)
    exact x_aret S hr hlk hS ⟨a, v2, n, f1, u, rfl, (hLL ▸ hK2 ▸ (⟨hL.1, fun j hj => (hf1 j hj).trans (hL.2 j hj)⟩ : BC f1 n L)), by omega, hu, hB, hs0, hP, hD⟩ dL_told_201
  | succ r ih =>
    refine lv_iload_n S.1 S.2.1 dL_told_142 rfl (lv_at hl 2 rfl) ?_
    refine lv_bipush (v := 17) S.1 S.2.1 dL_told_143 (by decide) ?_
    refine lv_icmp_ge (tgt := 197) S.1 S.2.1 dL_told_145 (by decide) (fun z9 => absurd z9 (fun z9 => absurd ((nI_leI (a := 17) (by omega) (by omega)).mp z9) (by omega))) (fun _ => ?_)
    refine lv_aload_n S.1 S.2.1 dL_told_148 rfl (lv_at hl 1 rfl) ?_
    refine va_ldcS (own := RL) (q := D.2 200 38) S.1 S.2.1 S.2.2.2.1 (ldS_42 hE) dL_told_149 ?_
    refine bw_lit (i := 38) (M := 20954) (cb := 782) (sb := 30808) S qw1002 hK hP hD hE hS hA hf hn h16 hm (Nat.le_of_ble_eq_true rfl) hL (by decide) rfl lit_asc38 (by decide) (by show 2 * (n + 1) ≤ 20954; omega) hl.1 (Nat.le_of_ble_eq_true rfl) ⟨(Nat.le_of_ble_eq_true rfl), (Nat.le_of_ble_eq_true rfl)⟩ ⟨(Nat.le_of_ble_eq_true rfl), (Nat.le_of_ble_eq_true rfl)⟩ dL_told_151 (fun H locs v1 f k1 m e1 hL hf hn h16 hm hP hD hS => ?_)
    have hb : k1 ≤ 9864 + 36 * k + 1 := by have e2 : k1 = n + 1 := e1; omega
    clear e1
    refine lv_aload_n S.1 S.2.1 dL_told_154 rfl (lv_at hl 0 rfl) ?_
    refine lv_iload_n S.1 S.2.1 dL_told_155 rfl (lv_at hl 2 rfl) ?_
    refine x_aftQ (st1 := [.int (a_value v (nI k)), .ref b]) (x_V0 (As := [.int (nI k)]) (rest := [.ref b]) S mi_X11_value qw725 (k_value l D A (u ++ sbW D b v1 m f k1) α hR hN (nI k) (hB.app hu)) hK hP hD (hE.kept hS.2.1) ((hB.app hu).recv hK hP) rfl rfl hl.1 (Nat.le_of_ble_eq_true rfl) rfl rfl ⟨(Nat.le_of_ble_eq_true rfl), (Nat.le_of_ble_eq_true rfl)⟩ ⟨(by show 782 + m / 16 + 0 ≤ 2100; omega), (by show 30808 + 2 * m + 0 ≤ 83200; omega)⟩ dL_told_156) hS (fun _ h => h) rfl (fun w2 H locs hq hP hD hz hk hS => ?_)
    obtain ⟨hB1, hsm⟩ := hq
    clear hz hk
    obtain ⟨u, rfl, hsu⟩ := w_same hsm hu
    have hu : 234 ≤ u.length := by rw [hsu.1]; exact hu
    have hB := hB1.left hu
    have hs0 := hs0.trans hsu
    clear hsm hB1 hsu
    refine bw_in (M := 20954) (cb := 782) (sb := 30808) S qw976 hK hP hD hE hS hA hf hn h16 hm (Nat.le_of_ble_eq_true rfl) hL hG (by have := decL_le (a_value v (nI k)); omega) hl.1 (Nat.le_of_ble_eq_true rfl) ⟨(Nat.le_of_ble_eq_true rfl), (Nat.le_of_ble_eq_true rfl)⟩ ⟨(Nat.le_of_ble_eq_true rfl), (Nat.le_of_ble_eq_true rfl)⟩ dL_told_159 (fun H locs v1 f k3 m e1 hL hf hn h16 hm hP hD hS => ?_)
    have hb : k3 ≤ 9864 + 36 * k + 1 + 11 := by have := decL_le (a_value v (nI k)); omega
    clear e1
    refine va_ldcS (own := RL) (q := D.2 200 38) S.1 S.2.1 S.2.2.2.1 (ldS_42 hE) dL_told_162 ?_
    refine bw_lit (i := 38) (M := 20954) (cb := 782) (sb := 30808) S qw1002 hK hP hD hE hS hA hf hn h16 hm (Nat.le_of_ble_eq_true rfl) hL (by decide) rfl lit_asc38 (by decide) (by show 2 * (k3 + 1) ≤ 20954; omega) hl.1 (Nat.le_of_ble_eq_true rfl) ⟨(Nat.le_of_ble_eq_true rfl), (Nat.le_of_ble_eq_true rfl)⟩ ⟨(Nat.le_of_ble_eq_true rfl), (Nat.le_of_ble_eq_true rfl)⟩ dL_told_164 (fun H locs v1 f k4 m e1 hL hf hn h16 hm hP hD hS => ?_)
    have hb : k4 ≤ 9864 + 36 * k + 1 + 11 + 1 := by have e2 : k4 = k3 + 1 := e1; omega
    clear e1
    refine lv_aload_n S.1 S.2.1 dL_told_167 rfl (lv_at hl 0 rfl) ?_
    refine lv_iload_n S.1 S.2.1 dL_told_168 rfl (lv_at hl 2 rfl) ?_
    refine lv_iconst (v := 1) S.1 S.2.1 dL_told_169 (by decide) ?_
    refine x_aftR (st1 := [.int (a_past v (nI k) (1 : Int32)), .ref b]) (x_V0 (As := [.int (nI k), .int 1]) (rest := [.ref b]) S mi_X11_past qw1527 (k_past l D A (u ++ sbW D b v1 m f k4) α (nI k) (1 : Int32) (hB.app hu)) hK hP hD (hE.kept hS.2.1) ((hB.app hu).recv hK hP) rfl rfl hl.1 (Nat.le_of_ble_eq_true rfl) rfl rfl ⟨(Nat.le_of_ble_eq_true rfl), (Nat.le_of_ble_eq_true rfl)⟩ ⟨(by show 782 + m / 16 + 0 ≤ 2100; omega), (by show 30808 + 2 * m + 0 ≤ 83200; omega)⟩ dL_told_170) hS (fun _ h => h) rfl (fun locs hS => ?_)
    refine bw_in (M := 20954) (cb := 782) (sb := 30808) S qw976 hK hP hD hE hS hA hf hn h16 hm (Nat.le_of_ble_eq_true rfl) hL hG (by have := decL_le (a_past v (nI k) (1 : Int32)); omega) hl.1 (Nat.le_of_ble_eq_true rfl) ⟨(Nat.le_of_ble_eq_true rfl), (Nat.le_of_ble_eq_true rfl)⟩ ⟨(Nat.le_of_ble_eq_true rfl), (Nat.le_of_ble_eq_true rfl)⟩ dL_told_173 (fun H locs v1 f k5 m e1 hL hf hn h16 hm hP hD hS => ?_)
    have hb : k5 ≤ 9864 + 36 * k + 1 + 11 + 1 + 11 := by have := decL_le (a_past v (nI k) (1 : Int32)); omega
    clear e1
    refine va_ldcS (own := RL) (q := D.2 200 38) S.1 S.2.1 S.2.2.2.1 (ldS_42 hE) dL_told_176 ?_
    refine bw_lit (i := 38) (M := 20954) (cb := 782) (sb := 30808) S qw1002 hK hP hD hE hS hA hf hn h16 hm (Nat.le_of_ble_eq_true rfl) hL (by decide) rfl lit_asc38 (by decide) (by show 2 * (k5 + 1) ≤ 20954; omega) hl.1 (Nat.le_of_ble_eq_true rfl) ⟨(Nat.le_of_ble_eq_true rfl), (Nat.le_of_ble_eq_true rfl)⟩ ⟨(Nat.le_of_ble_eq_true rfl), (Nat.le_of_ble_eq_true rfl)⟩ dL_told_178 (fun H locs v1 f k6 m e1 hL hf hn h16 hm hP hD hS => ?_)
    have hb : k6 ≤ 9864 + 36 * k + 1 + 11 + 1 + 11 + 1 := by have e2 : k6 = k5 + 1 := e1; omega
    clear e1
    refine lv_aload_n S.1 S.2.1 dL_told_181 rfl (lv_at hl 0 rfl) ?_
    refine lv_iload_n S.1 S.2.1 dL_told_182 rfl (lv_at hl 2 rfl) ?_
    refine lv_iconst (v := 3) S.1 S.2.1 dL_told_183 (by decide) ?_
    refine x_aftR (st1 := [.int (a_past v (nI k) (3 : Int32)), .ref b]) (x_V0 (As := [.int (nI k), .int 3]) (rest := [.ref b]) S mi_X11_past qw1527 (k_past l D A (u ++ sbW D b v1 m f k6) α (nI k) (3 : Int32) (hB.app hu)) hK hP hD (hE.kept hS.2.1) ((hB.app hu).recv hK hP) rfl rfl hl.1 (Nat.le_of_ble_eq_true rfl) rfl rfl ⟨(Nat.le_of_ble_eq_true rfl), (Nat.le_of_ble_eq_true rfl)⟩ ⟨(by show 782 + m / 16 + 0 ≤ 2100; omega), (by show 30808 + 2 * m + 0 ≤ 83200; omega)⟩ dL_told_184) hS (fun _ h => h) rfl (fun locs hS => ?_)
    refine bw_in (M := 20954) (cb := 782) (sb := 30808) S qw976 hK hP hD hE hS hA hf hn h16 hm (Nat.le_of_ble_eq_true rfl) hL hG (by have := decL_le (a_past v (nI k) (3 : Int32)); omega) hl.1 (Nat.le_of_ble_eq_true rfl) ⟨(Nat.le_of_ble_eq_true rfl), (Nat.le_of_ble_eq_true rfl)⟩ ⟨(Nat.le_of_ble_eq_true rfl), (Nat.le_of_ble_eq_true rfl)⟩ dL_told_187 (fun H locs v1 f k7 m e1 hL hf hn h16 hm hP hD hS => ?_)
    have hb : k7 ≤ 9864 + 36 * k + 1 + 11 + 1 + 11 + 1 + 11 := by have := decL_le (a_past v (nI k) (3 : Int32)); omega
    clear e1
    refine lv_pop S.1 S.2.1 dL_told_190 rfl ?_
    refine lv_iinc (v := (nI (k + 1))) (lv' := [(2, .int (nI (k + 1))), (0, .ref (α 0)), (1, .ref b)]) S.1 S.2.1 dL_told_191 hl (k := 2) rfl ((nI_succ k).symm) (by decide) rfl (fun ls hl => ?_)
    refine lv_goto (tgt := 142) S.1 S.2.1 dL_told_194 (by decide) ?_
    refine ih (k := k + 1) hP hD hS hB hu hs0 hf hn h16 hm hL (lv_sub hl [1, 2, 0] rfl) (by omega) (by omega) ?_
    rw [tVa_s, hK2]
set_option maxHeartbeats 4000000 in
set_option maxRecDepth 100000 in
theorem tl_bi (S : CallFix pg mi co cL_told 4 s ar lw_all RL) (hK : va_K D vwCl (gTys D) s) (hE : EV D A s s.heap) (hA : ∀ q, s.heap.size ≤ q → A q) (hG : DGf A s s.heap) (hC : CN s) (hr : me.sig.returnType = some (.object "java/lang/String")) (hlk : me.locks = false) (hR : RA N P B Q v) (hN : N ≤ 600) {L0 : List Int32} {n0 j : Nat} (hn0 : n0 + 60 ≤ 10476) (hj : j < 6) (kk : ∀ {u : va_W} {v1 m n : Nat} {f : Nat → Int32} {L : List Int32} {H : Heap} {locs : List Loc} {ls : Array Slot}, va_P D vwCl (u ++ sbW D b v1 m f n) H → va_D A (u ++ sbW D b v1 m f n) → va_S A s.heap H locs → OB D α u v → 234 ≤ u.length → Same w0 u 0 234 → fbt f → n ≤ m → 16 ≤ m → m ≤ 20954 → BC f n L → lv_has ls 4 [(0, .ref (α 0)), (1, .ref b), (2, .int (nI (j + 1)))] → n ≤ n0 + 60 → tBi v j L0 5 = L → W pg l en ({ frames := 11, cells := 2100, slots := 83200, locals := 340 } : Room) s mi ar below me co H locs (782 + m / 16) (30808 + 2 * m) (MQ below (toldQ D A α w0 v LL) ar s 2100 83200 A) (F0 mi 96 ls [])) (r k : Nat) (hP : va_P D vwCl (u ++ sbW D b v1 m f n) H) (hD : va_D A (u ++ sbW D b v1 m f n)) (hS : va_S A s.heap H locs) (hB : OB D α u v) (hu : 234 ≤ u.length) (hs0 : Same w0 u 0 234) (hf : fbt f) (hn : n ≤ m) (h16 : 16 ≤ m) (hm : m ≤ 20954) (hL : BC f n L) (hl : lv_has ls 4 [(0, .ref (α 0)), (1, .ref b), (2, .int (nI j)), (3, .int (nI k))]) (hk : k + r = 5) (hb : n ≤ n0 + 12 * k) (hK2 : tBi v j L0 k = L) : W pg l en ({ frames := 11, cells := 2100, slots := 83200, locals := 340 } : Room) s mi ar below me co H locs (782 + m / 16) (30808 + 2 * m) (MQ below (toldQ D A α w0 v LL) ar s 2100 83200 A) (F0 mi 107 ls []) := by
  induction r generalizing k L n m f v1 u H locs ls with
  | zero =>
    have hk : k = 5 := hk
    subst hk
    refine lv_iload_n S.1 S.2.1 dL_told_107 rfl (lv_at hl 3 rfl) ?_
    refine lv_iconst (v := 5) S.1 S.2.1 dL_told_108 (by decide) ?_
    refine lv_icmp_ge (tgt := 134) S.1 S.2.1 dL_told_109 (by decide) (fun _ => ?_) (fun z9 => absurd (Int32.le_refl _) z9)
    refine lv_iinc (v := (nI (j + 1))) (lv' := [(2, .int (nI (j + 1))), (0, .ref (α 0)), (1, .ref b), (3, .int (nI 5))]) S.1 S.2.1 dL_told_134 hl (k := 2) rfl ((nI_succ j).symm) (by decide) rfl (fun ls hl => ?_)
    refine lv_goto (tgt := 96) S.1 S.2.1 dL_told_137 (by decide) ?_
    exact kk hP hD hS hB hu hs0 hf hn h16 hm hL (lv_sub hl [1, 2, 0] rfl) (by omega) hK2
  | succ r ih =>
    refine lv_iload_n S.1 S.2.1 dL_told_107 rfl (lv_at hl 3 rfl) ?_
    refine lv_iconst (v := 5) S.1 S.2.1 dL_told_108 (by decide) ?_
    refine lv_icmp_ge (tgt := 134) S.1 S.2.1 dL_told_109 (by decide) (fun z9 => absurd z9 (fun z9 => absurd ((nI_leI (a := 5) (by omega) (by omega)).mp z9) (by omega))) (fun _ => ?_)
    refine lv_aload_n S.1 S.2.1 dL_told_112 rfl (lv_at hl 1 rfl) ?_
    refine va_ldcS (own := RL) (q := D.2 200 38) S.1 S.2.1 S.2.2.2.1 (ldS_42 hE) dL_told_113 ?_
    refine bw_lit (i := 38) (M := 20954) (cb := 782) (sb := 30808) S qw1002 hK hP hD hE hS hA hf hn h16 hm (Nat.le_of_ble_eq_true rfl) hL (by decide) rfl lit_asc38 (by decide) (by show 2 * (n + 1) ≤ 20954; omega) hl.1 (Nat.le_of_ble_eq_true rfl) ⟨(Nat.le_of_ble_eq_true rfl), (Nat.le_of_ble_eq_true rfl)⟩ ⟨(Nat.le_of_ble_eq_true rfl), (Nat.le_of_ble_eq_true rfl)⟩ dL_told_115 (fun H locs v1 f k1 m e1 hL hf hn h16 hm hP hD hS => ?_)
    have hb : k1 ≤ n0 + 12 * k + 1 := by have e2 : k1 = n + 1 := e1; omega
    clear e1
    refine lv_aload_n S.1 S.2.1 dL_told_118 rfl (lv_at hl 0 rfl) ?_
    refine lv_iload_n S.1 S.2.1 dL_told_119 rfl (lv_at hl 2 rfl) ?_
    refine lv_iload_n S.1 S.2.1 dL_told_120 rfl (lv_at hl 3 rfl) ?_
    refine x_aftR (st1 := [.int (a_boat v (nI j) (nI k)), .ref b]) (x_V0 (As := [.int (nI j), .int (nI k)]) (rest := [.ref b]) S mi_X11_boat qw1319 (k_boat l D A (u ++ sbW D b v1 m f k1) α (nI j) (nI k) (hB.app hu)) hK hP hD (hE.kept hS.2.1) ((hB.app hu).recv hK hP) rfl rfl hl.1 (Nat.le_of_ble_eq_true rfl) rfl rfl ⟨(Nat.le_of_ble_eq_true rfl), (Nat.le_of_ble_eq_true rfl)⟩ ⟨(by show 782 + m / 16 + 0 ≤ 2100; omega), (by show 30808 + 2 * m + 0 ≤ 83200; omega)⟩ dL_told_121) hS (fun _ h => h) rfl (fun locs hS => ?_)
    refine bw_in (M := 20954) (cb := 782) (sb := 30808) S qw976 hK hP hD hE hS hA hf hn h16 hm (Nat.le_of_ble_eq_true rfl) hL hG (by have := decL_le (a_boat v (nI j) (nI k)); omega) hl.1 (Nat.le_of_ble_eq_true rfl) ⟨(Nat.le_of_ble_eq_true rfl), (Nat.le_of_ble_eq_true rfl)⟩ ⟨(Nat.le_of_ble_eq_true rfl), (Nat.le_of_ble_eq_true rfl)⟩ dL_told_124 (fun H locs v1 f k2 m e1 hL hf hn h16 hm hP hD hS => ?_)
    have hb : k2 ≤ n0 + 12 * k + 1 + 11 := by have := decL_le (a_boat v (nI j) (nI k)); omega
    clear e1
    refine lv_pop S.1 S.2.1 dL_told_127 rfl ?_
    refine lv_iinc (v := (nI (k + 1))) (lv' := [(3, .int (nI (k + 1))), (0, .ref (α 0)), (1, .ref b), (2, .int (nI j))]) S.1 S.2.1 dL_told_128 hl (k := 3) rfl ((nI_succ k).symm) (by decide) rfl (fun ls hl => ?_)
    refine lv_goto (tgt := 107) S.1 S.2.1 dL_told_131 (by decide) ?_
    refine ih (k := k + 1) hP hD hS hB hu hs0 hf hn h16 hm hL (lv_sub hl [1, 2, 3, 0] rfl) (by omega) (by omega) ?_
    rw [tBi_s, hK2]
set_option maxHeartbeats 4000000 in
set_option maxRecDepth 100000 in
theorem tl_b (S : CallFix pg mi co cL_told 4 s ar lw_all RL) (hK : va_K D vwCl (gTys D) s) (hE : EV D A s s.heap) (hA : ∀ q, s.heap.size ≤ q → A q) (hG : DGf A s s.heap) (hC : CN s) (hr : me.sig.returnType = some (.object "java/lang/String")) (hlk : me.locks = false) (hR : RA N P B Q v) (hN : N ≤ 600) (h3 : a_value v 3 = nI B) (hB6 : B ≤ 6) {L0 : List Int32} (hLL : tVa v (tBo v L0 B) 17 = LL) (r j : Nat) (hP : va_P D vwCl (u ++ sbW D b v1 m f n) H) (hD : va_D A (u ++ sbW D b v1 m f n)) (hS : va_S A s.heap H locs) (hB : OB D α u v) (hu : 234 ≤ u.length) (hs0 : Same w0 u 0 234) (hf : fbt f) (hn : n ≤ m) (h16 : 16 ≤ m) (hm : m ≤ 20954) (hL : BC f n L) (hl : lv_has ls 4 [(0, .ref (α 0)), (1, .ref b), (2, .int (nI j))]) (hj : j + r = B) (hb : n ≤ 9504 + 60 * j) (hK2 : tBo v L0 j = L) : W pg l en ({ frames := 11, cells := 2100, slots := 83200, locals := 340 } : Room) s mi ar below me co H locs (782 + m / 16) (30808 + 2 * m) (MQ below (toldQ D A α w0 v LL) ar s 2100 83200 A) (F0 mi 96 ls []) := by
  induction r generalizing j L n m f v1 u H locs ls with
  | zero =>
    have hj : j = B := hj
    subst hj
    refine lv_iload_n S.1 S.2.1 dL_told_96 rfl (lv_at hl 2 rfl) ?_
    refine lv_aload_n S.1 S.2.1 dL_told_97 rfl (lv_at hl 0 rfl) ?_
    refine lv_iconst (v := 3) S.1 S.2.1 dL_told_98 (by decide) ?_
    refine x_aftQ (st1 := [.int (a_value v (3 : Int32)), .int (nI j)]) (x_V0 (As := [.int 3]) (rest := [.int (nI j)]) S mi_X11_value qw725 (k_value l D A (u ++ sbW D b v1 m f n) α hR hN (3 : Int32) (hB.app hu)) hK hP hD (hE.kept hS.2.1) ((hB.app hu).recv hK hP) rfl rfl hl.1 (Nat.le_of_ble_eq_true rfl) rfl rfl ⟨(Nat.le_of_ble_eq_true rfl), (Nat.le_of_ble_eq_true rfl)⟩ ⟨(by show 782 + m / 16 + 0 ≤ 2100; omega), (by show 30808 + 2 * m + 0 ≤ 83200; omega)⟩ dL_told_99) hS (fun _ h => h) rfl (fun w1 H locs hq hP hD hz hk hS => ?_)
    obtain ⟨hB1, hsm⟩ := hq
    clear hz hk
    obtain ⟨u, rfl, hsu⟩ := w_same hsm hu
    have hu : 234 ≤ u.length := by rw [hsu.1]; exact hu
    have hB := hB1.left hu
    have hs0 := hs0.trans hsu
    clear hsm hB1 hsu
    rw [show (a_value v (3 : Int32)) = (nI j) from h3]
    refine lv_icmp_ge (tgt := 140) S.1 S.2.1 dL_told_102 (by decide) (fun _ => ?_) (fun z9 => absurd (Int32.le_refl _) z9)
    refine lv_iconst (v := 0) S.1 S.2.1 dL_told_140 (by decide) ?_
    refine lv_istore_n (lv' := [(2, .int 0), (0, .ref (α 0)), (1, .ref b)]) S.1 S.2.1 dL_told_141 rfl hl (by decide) rfl (fun ls hl => ?_)
    exact tl_v S hK hE hA hG hC hr hlk hR hN (L0 := L) (hK2 ▸ hLL) 17 0 hP hD hS hB hu hs0 hf hn h16 hm hL (lv_sub hl [1, 2, 0] rfl) rfl (by omega) (iter_z _ _)
  | succ r ih =>
    refine lv_iload_n S.1 S.2.1 dL_told_96 rfl (lv_at hl 2 rfl) ?_
    refine lv_aload_n S.1 S.2.1 dL_told_97 rfl (lv_at hl 0 rfl) ?_
    refine lv_iconst (v := 3) S.1 S.2.1 dL_told_98 (by decide) ?_
    refine x_aftQ (st1 := [.int (a_value v (3 : Int32)), .int (nI j)]) (x_V0 (As := [.int 3]) (rest := [.int (nI j)]) S mi_X11_value qw725 (k_value l D A (u ++ sbW D b v1 m f n) α hR hN (3 : Int32) (hB.app hu)) hK hP hD (hE.kept hS.2.1) ((hB.app hu).recv hK hP) rfl rfl hl.1 (Nat.le_of_ble_eq_true rfl) rfl rfl ⟨(Nat.le_of_ble_eq_true rfl), (Nat.le_of_ble_eq_true rfl)⟩ ⟨(by show 782 + m / 16 + 0 ≤ 2100; omega), (by show 30808 + 2 * m + 0 ≤ 83200; omega)⟩ dL_told_99) hS (fun _ h => h) rfl (fun w2 H locs hq hP hD hz hk hS => ?_)
    obtain ⟨hB1, hsm⟩ := hq
    clear hz hk
    obtain ⟨u, rfl, hsu⟩ := w_same hsm hu
    have hu : 234 ≤ u.length := by rw [hsu.1]; exact hu
    have hB := hB1.left hu
    have hs0 := hs0.trans hsu
    clear hsm hB1 hsu
    rw [show (a_value v (3 : Int32)) = (nI B) from h3]
    refine lv_icmp_ge (tgt := 140) S.1 S.2.1 dL_told_102 (by decide) (fun z9 => absurd z9 (fun z9 => absurd ((nI_leI (by omega) (by omega)).mp z9) (by omega))) (fun _ => ?_)
    refine lv_iconst (v := 0) S.1 S.2.1 dL_told_105 (by decide) ?_
    refine lv_istore_n (lv' := [(3, .int 0), (0, .ref (α 0)), (1, .ref b), (2, .int (nI j))]) S.1 S.2.1 dL_told_106 rfl hl (by decide) rfl (fun ls hl => ?_)
    refine tl_bi S hK hE hA hG hC hr hlk hR hN (L0 := L) (n0 := 9504 + 60 * j) (j := j) (by omega) (by omega) (fun {u} {v1} {m} {n} {f} {L} {H} {locs} {ls} hP hD hS hB hu hs0 hf hn h16 hm hL hl hb hK3 => ?_) 5 0 hP hD hS hB hu hs0 hf hn h16 hm hL (lv_sub hl [1, 2, 3, 0] rfl) rfl (by omega) (iter_z _ _)
    refine ih (j := j + 1) hP hD hS hB hu hs0 hf hn h16 hm hL hl (by omega) (by omega) ?_
    rw [tBo_s, hK2]
    exact hK3
set_option maxHeartbeats 4000000 in
set_option maxRecDepth 100000 in
theorem tl_pi (S : CallFix pg mi co cL_told 4 s ar lw_all RL) (hK : va_K D vwCl (gTys D) s) (hE : EV D A s s.heap) (hA : ∀ q, s.heap.size ≤ q → A q) (hG : DGf A s s.heap) (hC : CN s) (hr : me.sig.returnType = some (.object "java/lang/String")) (hlk : me.locks = false) (hR : RA N P B Q v) (hN : N ≤ 600) {L0 : List Int32} {n0 j : Nat} (hn0 : n0 + 168 ≤ 10476) (hj : j < 20) (kk : ∀ {u : va_W} {v1 m n : Nat} {f : Nat → Int32} {L : List Int32} {H : Heap} {locs : List Loc} {ls : Array Slot}, va_P D vwCl (u ++ sbW D b v1 m f n) H → va_D A (u ++ sbW D b v1 m f n) → va_S A s.heap H locs → OB D α u v → 234 ≤ u.length → Same w0 u 0 234 → fbt f → n ≤ m → 16 ≤ m → m ≤ 20954 → BC f n L → lv_has ls 4 [(0, .ref (α 0)), (1, .ref b), (2, .int (nI (j + 1)))] → n ≤ n0 + 168 → tIn v j L0 7 = L → W pg l en ({ frames := 11, cells := 2100, slots := 83200, locals := 340 } : Room) s mi ar below me co H locs (782 + m / 16) (30808 + 2 * m) (MQ below (toldQ D A α w0 v LL) ar s 2100 83200 A) (F0 mi 31 ls [])) (r k : Nat) (hP : va_P D vwCl (u ++ sbW D b v1 m f n) H) (hD : va_D A (u ++ sbW D b v1 m f n)) (hS : va_S A s.heap H locs) (hB : OB D α u v) (hu : 234 ≤ u.length) (hs0 : Same w0 u 0 234) (hf : fbt f) (hn : n ≤ m) (h16 : 16 ≤ m) (hm : m ≤ 20954) (hL : BC f n L) (hl : lv_has ls 4 [(0, .ref (α 0)), (1, .ref b), (2, .int (nI j)), (3, .int (nI k))]) (hk : k + r = 7) (hb : n ≤ n0 + 24 * k) (hK2 : tIn v j L0 k = L) : W pg l en ({ frames := 11, cells := 2100, slots := 83200, locals := 340 } : Room) s mi ar below me co H locs (782 + m / 16) (30808 + 2 * m) (MQ below (toldQ D A α w0 v LL) ar s 2100 83200 A) (F0 mi 42 ls []) := by
  induction r generalizing k L n m f v1 u H locs ls with
  | zero =>
    have hk : k = 7 := hk
    subst hk
    refine lv_iload_n S.1 S.2.1 dL_told_42 rfl (lv_at hl 3 rfl) ?_
    refine lv_bipush (v := 7) S.1 S.2.1 dL_told_43 (by decide) ?_
    refine lv_icmp_ge (tgt := 88) S.1 S.2.1 dL_told_45 (by decide) (fun _ => ?_) (fun z9 => absurd (Int32.le_refl _) z9)
    refine lv_iinc (v := (nI (j + 1))) (lv' := [(2, .int (nI (j + 1))), (0, .ref (α 0)), (1, .ref b), (3, .int (nI 7))]) S.1 S.2.1 dL_told_88 hl (k := 2) rfl ((nI_succ j).symm) (by decide) rfl (fun ls hl => ?_)
    refine lv_goto (tgt := 31) S.1 S.2.1 dL_told_91 (by decide) ?_
    exact kk hP hD hS hB hu hs0 hf hn h16 hm hL (lv_sub hl [1, 2, 0] rfl) (by omega) hK2
  | succ r ih =>
    refine lv_iload_n S.1 S.2.1 dL_told_42 rfl (lv_at hl 3 rfl) ?_
    refine lv_bipush (v := 7) S.1 S.2.1 dL_told_43 (by decide) ?_
    refine lv_icmp_ge (tgt := 88) S.1 S.2.1 dL_told_45 (by decide) (fun z9 => absurd z9 (fun z9 => absurd ((nI_leI (a := 7) (by omega) (by omega)).mp z9) (by omega))) (fun _ => ?_)
    refine lv_aload_n S.1 S.2.1 dL_told_48 rfl (lv_at hl 1 rfl) ?_
    refine va_ldcS (own := RL) (q := D.2 200 38) S.1 S.2.1 S.2.2.2.1 (ldS_42 hE) dL_told_49 ?_
    refine bw_lit (i := 38) (M := 20954) (cb := 782) (sb := 30808) S qw1002 hK hP hD hE hS hA hf hn h16 hm (Nat.le_of_ble_eq_true rfl) hL (by decide) rfl lit_asc38 (by decide) (by show 2 * (n + 1) ≤ 20954; omega) hl.1 (Nat.le_of_ble_eq_true rfl) ⟨(Nat.le_of_ble_eq_true rfl), (Nat.le_of_ble_eq_true rfl)⟩ ⟨(Nat.le_of_ble_eq_true rfl), (Nat.le_of_ble_eq_true rfl)⟩ dL_told_51 (fun H locs v1 f k1 m e1 hL hf hn h16 hm hP hD hS => ?_)
    have hb : k1 ≤ n0 + 24 * k + 1 := by have e2 : k1 = n + 1 := e1; omega
    clear e1
    refine lv_aload_n S.1 S.2.1 dL_told_54 rfl (lv_at hl 0 rfl) ?_
    refine lv_iload_n S.1 S.2.1 dL_told_55 rfl (lv_at hl 2 rfl) ?_
    refine lv_iload_n S.1 S.2.1 dL_told_56 rfl (lv_at hl 3 rfl) ?_
    refine x_aftR (st1 := [.int (a_person v (nI j) (nI k)), .ref b]) (x_V0 (As := [.int (nI j), .int (nI k)]) (rest := [.ref b]) S mi_X11_person qw463 (k_person l D A (u ++ sbW D b v1 m f k1) α (nI j) (nI k) (hB.app hu)) hK hP hD (hE.kept hS.2.1) ((hB.app hu).recv hK hP) rfl rfl hl.1 (Nat.le_of_ble_eq_true rfl) rfl rfl ⟨(Nat.le_of_ble_eq_true rfl), (Nat.le_of_ble_eq_true rfl)⟩ ⟨(by show 782 + m / 16 + 0 ≤ 2100; omega), (by show 30808 + 2 * m + 0 ≤ 83200; omega)⟩ dL_told_57) hS (fun _ h => h) rfl (fun locs hS => ?_)
    refine bw_in (M := 20954) (cb := 782) (sb := 30808) S qw976 hK hP hD hE hS hA hf hn h16 hm (Nat.le_of_ble_eq_true rfl) hL hG (by have := decL_le (a_person v (nI j) (nI k)); omega) hl.1 (Nat.le_of_ble_eq_true rfl) ⟨(Nat.le_of_ble_eq_true rfl), (Nat.le_of_ble_eq_true rfl)⟩ ⟨(Nat.le_of_ble_eq_true rfl), (Nat.le_of_ble_eq_true rfl)⟩ dL_told_60 (fun H locs v1 f k2 m e1 hL hf hn h16 hm hP hD hS => ?_)
    have hb : k2 ≤ n0 + 24 * k + 1 + 11 := by have := decL_le (a_person v (nI j) (nI k)); omega
    clear e1
    refine va_ldcS (own := RL) (q := D.2 200 38) S.1 S.2.1 S.2.2.2.1 (ldS_42 hE) dL_told_63 ?_
    refine bw_lit (i := 38) (M := 20954) (cb := 782) (sb := 30808) S qw1002 hK hP hD hE hS hA hf hn h16 hm (Nat.le_of_ble_eq_true rfl) hL (by decide) rfl lit_asc38 (by decide) (by show 2 * (k2 + 1) ≤ 20954; omega) hl.1 (Nat.le_of_ble_eq_true rfl) ⟨(Nat.le_of_ble_eq_true rfl), (Nat.le_of_ble_eq_true rfl)⟩ ⟨(Nat.le_of_ble_eq_true rfl), (Nat.le_of_ble_eq_true rfl)⟩ dL_told_65 (fun H locs v1 f k3 m e1 hL hf hn h16 hm hP hD hS => ?_)
    have hb : k3 ≤ n0 + 24 * k + 1 + 11 + 1 := by have e2 : k3 = k2 + 1 := e1; omega
    clear e1
    refine lv_aload_n S.1 S.2.1 dL_told_68 rfl (lv_at hl 0 rfl) ?_
    refine lv_iload_n S.1 S.2.1 dL_told_69 rfl (lv_at hl 2 rfl) ?_
    refine lv_iload_n S.1 S.2.1 dL_told_70 rfl (lv_at hl 3 rfl) ?_
    refine lv_iconst (v := 5) S.1 S.2.1 dL_told_71 (by decide) ?_
    refine va_mmin S.1 S.2.1 (S.2.2.1.trans hl.1.symm) S.2.2.2.1 (S.2.2.2.2 _ qw1526) (S.2.2.2.2 _ qw416) (S.2.2.2.2 _ qw4) (S.2.2.2.2 _ qw417) (by first | exact Nat.le_of_ble_eq_true rfl | (show _ ≤ 2100; omega) | (show _ ≤ 83200; omega)) (by first | exact Nat.le_of_ble_eq_true rfl | (show _ ≤ 2100; omega) | (show _ ≤ 83200; omega)) (by first | exact Nat.le_of_ble_eq_true rfl | (show _ ≤ 2100; omega) | (show _ ≤ 83200; omega)) (by first | exact Nat.le_of_ble_eq_true rfl | (show _ ≤ 2100; omega) | (show _ ≤ 83200; omega)) dL_told_72 ?_
    rw [show (if (5 : Int32) < (nI k) then (5 : Int32) else (nI k)) = (mn (nI k) (5 : Int32)) from rfl]
    refine x_aftR (st1 := [.int (a_stick v (nI j) (mn (nI k) (5 : Int32))), .ref b]) (x_V0 (As := [.int (nI j), .int (mn (nI k) (5 : Int32))]) (rest := [.ref b]) S mi_X11_stick qw1209 (k_stick l D A (u ++ sbW D b v1 m f k3) α (nI j) (mn (nI k) (5 : Int32)) (hB.app hu)) hK hP hD (hE.kept hS.2.1) ((hB.app hu).recv hK hP) rfl rfl hl.1 (Nat.le_of_ble_eq_true rfl) rfl rfl ⟨(Nat.le_of_ble_eq_true rfl), (Nat.le_of_ble_eq_true rfl)⟩ ⟨(by show 782 + m / 16 + 0 ≤ 2100; omega), (by show 30808 + 2 * m + 0 ≤ 83200; omega)⟩ dL_told_75) hS (fun _ h => h) rfl (fun locs hS => ?_)
    refine bw_in (M := 20954) (cb := 782) (sb := 30808) S qw976 hK hP hD hE hS hA hf hn h16 hm (Nat.le_of_ble_eq_true rfl) hL hG (by have := decL_le (a_stick v (nI j) (mn (nI k) (5 : Int32))); omega) hl.1 (Nat.le_of_ble_eq_true rfl) ⟨(Nat.le_of_ble_eq_true rfl), (Nat.le_of_ble_eq_true rfl)⟩ ⟨(Nat.le_of_ble_eq_true rfl), (Nat.le_of_ble_eq_true rfl)⟩ dL_told_78 (fun H locs v1 f k4 m e1 hL hf hn h16 hm hP hD hS => ?_)
    have hb : k4 ≤ n0 + 24 * k + 1 + 11 + 1 + 11 := by have := decL_le (a_stick v (nI j) (mn (nI k) (5 : Int32))); omega
    clear e1
    refine lv_pop S.1 S.2.1 dL_told_81 rfl ?_
    refine lv_iinc (v := (nI (k + 1))) (lv' := [(3, .int (nI (k + 1))), (0, .ref (α 0)), (1, .ref b), (2, .int (nI j))]) S.1 S.2.1 dL_told_82 hl (k := 3) rfl ((nI_succ k).symm) (by decide) rfl (fun ls hl => ?_)
    refine lv_goto (tgt := 42) S.1 S.2.1 dL_told_85 (by decide) ?_
    refine ih (k := k + 1) hP hD hS hB hu hs0 hf hn h16 hm hL (lv_sub hl [1, 2, 3, 0] rfl) (by omega) (by omega) ?_
    rw [tIn_s, hK2]
set_option maxHeartbeats 4000000 in
set_option maxRecDepth 100000 in
theorem tl_p (S : CallFix pg mi co cL_told 4 s ar lw_all RL) (hK : va_K D vwCl (gTys D) s) (hE : EV D A s s.heap) (hA : ∀ q, s.heap.size ≤ q → A q) (hG : DGf A s s.heap) (hC : CN s) (hr : me.sig.returnType = some (.object "java/lang/String")) (hlk : me.locks = false) (hR : RA N P B Q v) (hN : N ≤ 600) (h2 : a_value v 2 = nI P) (hP20 : P ≤ 20) (h3 : a_value v 3 = nI B) (hB6 : B ≤ 6) {L0 : List Int32} (hLL : tVa v (tBo v (tPe v L0 P) B) 17 = LL) (r j : Nat) (hP : va_P D vwCl (u ++ sbW D b v1 m f n) H) (hD : va_D A (u ++ sbW D b v1 m f n)) (hS : va_S A s.heap H locs) (hB : OB D α u v) (hu : 234 ≤ u.length) (hs0 : Same w0 u 0 234) (hf : fbt f) (hn : n ≤ m) (h16 : 16 ≤ m) (hm : m ≤ 20954) (hL : BC f n L) (hl : lv_has ls 4 [(0, .ref (α 0)), (1, .ref b), (2, .int (nI j))]) (hj : j + r = P) (hb : n ≤ 6144 + 168 * j) (hK2 : tPe v L0 j = L) : W pg l en ({ frames := 11, cells := 2100, slots := 83200, locals := 340 } : Room) s mi ar below me co H locs (782 + m / 16) (30808 + 2 * m) (MQ below (toldQ D A α w0 v LL) ar s 2100 83200 A) (F0 mi 31 ls []) := by
  induction r generalizing j L n m f v1 u H locs ls with
  | zero =>
    have hj : j = P := hj
    subst hj
    refine lv_iload_n S.1 S.2.1 dL_told_31 rfl (lv_at hl 2 rfl) ?_
    refine lv_aload_n S.1 S.2.1 dL_told_32 rfl (lv_at hl 0 rfl) ?_
    refine lv_iconst (v := 2) S.1 S.2.1 dL_told_33 (by decide) ?_
    refine x_aftQ (st1 := [.int (a_value v (2 : Int32)), .int (nI j)]) (x_V0 (As := [.int 2]) (rest := [.int (nI j)]) S mi_X11_value qw725 (k_value l D A (u ++ sbW D b v1 m f n) α hR hN (2 : Int32) (hB.app hu)) hK hP hD (hE.kept hS.2.1) ((hB.app hu).recv hK hP) rfl rfl hl.1 (Nat.le_of_ble_eq_true rfl) rfl rfl ⟨(Nat.le_of_ble_eq_true rfl), (Nat.le_of_ble_eq_true rfl)⟩ ⟨(by show 782 + m / 16 + 0 ≤ 2100; omega), (by show 30808 + 2 * m + 0 ≤ 83200; omega)⟩ dL_told_34) hS (fun _ h => h) rfl (fun w1 H locs hq hP hD hz hk hS => ?_)
    obtain ⟨hB1, hsm⟩ := hq
    clear hz hk
    obtain ⟨u, rfl, hsu⟩ := w_same hsm hu
    have hu : 234 ≤ u.length := by rw [hsu.1]; exact hu
    have hB := hB1.left hu
    have hs0 := hs0.trans hsu
    clear hsm hB1 hsu
    rw [show (a_value v (2 : Int32)) = (nI j) from h2]
    refine lv_icmp_ge (tgt := 94) S.1 S.2.1 dL_told_37 (by decide) (fun _ => ?_) (fun z9 => absurd (Int32.le_refl _) z9)
    refine lv_iconst (v := 0) S.1 S.2.1 dL_told_94 (by decide) ?_
    refine lv_istore_n (lv' := [(2, .int 0), (0, .ref (α 0)), (1, .ref b)]) S.1 S.2.1 dL_told_95 rfl hl (by decide) rfl (fun ls hl => ?_)
    exact tl_b S hK hE hA hG hC hr hlk hR hN h3 hB6 (L0 := L) (hK2 ▸ hLL) B 0 hP hD hS hB hu hs0 hf hn h16 hm hL (lv_sub hl [1, 2, 0] rfl) (Nat.zero_add B) (by omega) (iter_z _ _)
  | succ r ih =>
    refine lv_iload_n S.1 S.2.1 dL_told_31 rfl (lv_at hl 2 rfl) ?_
    refine lv_aload_n S.1 S.2.1 dL_told_32 rfl (lv_at hl 0 rfl) ?_
    refine lv_iconst (v := 2) S.1 S.2.1 dL_told_33 (by decide) ?_
    refine x_aftQ (st1 := [.int (a_value v (2 : Int32)), .int (nI j)]) (x_V0 (As := [.int 2]) (rest := [.int (nI j)]) S mi_X11_value qw725 (k_value l D A (u ++ sbW D b v1 m f n) α hR hN (2 : Int32) (hB.app hu)) hK hP hD (hE.kept hS.2.1) ((hB.app hu).recv hK hP) rfl rfl hl.1 (Nat.le_of_ble_eq_true rfl) rfl rfl ⟨(Nat.le_of_ble_eq_true rfl), (Nat.le_of_ble_eq_true rfl)⟩ ⟨(by show 782 + m / 16 + 0 ≤ 2100; omega), (by show 30808 + 2 * m + 0 ≤ 83200; omega)⟩ dL_told_34) hS (fun _ h => h) rfl (fun w2 H locs hq hP hD hz hk hS => ?_)
    obtain ⟨hB1, hsm⟩ := hq
    clear hz hk
    obtain ⟨u, rfl, hsu⟩ := w_same hsm hu
    have hu : 234 ≤ u.length := by rw [hsu.1]; exact hu
    have hB := hB1.left hu
    have hs0 := hs0.trans hsu
    clear hsm hB1 hsu
    rw [show (a_value v (2 : Int32)) = (nI P) from h2]
    refine lv_icmp_ge (tgt := 94) S.1 S.2.1 dL_told_37 (by decide) (fun z9 => absurd z9 (fun z9 => absurd ((nI_leI (by omega) (by omega)).mp z9) (by omega))) (fun _ => ?_)
    refine lv_iconst (v := 0) S.1 S.2.1 dL_told_40 (by decide) ?_
    refine lv_istore_n (lv' := [(3, .int 0), (0, .ref (α 0)), (1, .ref b), (2, .int (nI j))]) S.1 S.2.1 dL_told_41 rfl hl (by decide) rfl (fun ls hl => ?_)
    refine tl_pi S hK hE hA hG hC hr hlk hR hN (L0 := L) (n0 := 6144 + 168 * j) (j := j) (by omega) (by omega) (fun {u} {v1} {m} {n} {f} {L} {H} {locs} {ls} hP hD hS hB hu hs0 hf hn h16 hm hL hl hb hK3 => ?_) 7 0 hP hD hS hB hu hs0 hf hn h16 hm hL (lv_sub hl [1, 2, 3, 0] rfl) rfl (by omega) (iter_z _ _)
    refine ih (j := j + 1) hP hD hS hB hu hs0 hf hn h16 hm hL hl (by omega) (by omega) ?_
    rw [tPe_s, hK2]
    exact hK3
end TD
set_option maxHeartbeats 4000000 in
set_option maxRecDepth 100000 in
theorem l_told (l : Launch) (D : va_G) (A : Nat → Prop) (w : va_W) (α : Nat → Nat) {N P B Q : Nat} {v : VT} (hR : RA N P B Q v) (hN : N ≤ 600) (hB : OB D α w v) (hw : 234 ≤ w.length) {n0 n1 n2 nH : Nat} (hA : ∀ q, nH ≤ q → A q) (hT : TXT v n0 n1 n2) (h2 : a_value v 2 = nI P) (hP20 : P ≤ 20) (h3 : a_value v 3 = nI B) (hB6 : B ≤ 6) : Met l yL_told (ws_ yL_told cL_told 4 (Option.some (Jvm.ClassFile.FieldType.object "java/lang/String"))) ({ frames := 11, cells := 2100, slots := 83200, locals := 340 } : Room) (gPx D A [.ref (α 0)] w (fun U H => nH ≤ H.size ∧ (CN U ∧ DGf A U H))) (toldQ D A α w v (tolL v n0 n1 n2 P B)) 2100 83200 A := by
  refine g_metX [(0, .ref (α 0))] (by decide +kernel) (Nat.le_of_ble_eq_true rfl) rfl (fun pg en s mi ar below me co ls S hK hP hD hE hS hx hr hlk hnm hl => ?_)
  have hn0 := hx.1
  have hC := hx.2.1
  have hG := hx.2.2
  have hA : ∀ q, s.heap.size ≤ q → A q := fun q hq => hA q (Nat.le_trans hx.1 hq)
  obtain ⟨⟨e0, b0, c0⟩, ⟨e1, b1, c1⟩, ⟨e2, b2, c2⟩⟩ := hT
  have by_ : ∀ {x : Int32}, asc x → fits .byte (.int x) = true := fun h => (asc_ok h).2.2.2.1
  refine g_newO (C := RJ4) (T := TJ4) (N := 4) (ci := 13) (fs := [.null, .int 0, .int 0, .int 0]) S hK hP hD hS (hA _ hS.1) inJ4 tyJ4_ok rfl qw840 qw841 qw15 (fun j hj => by match j, hj with | 0, _ => rfl | 1, _ => rfl | 2, _ => rfl | 3, _ => rfl) (Nat.le_of_ble_eq_true rfl) (Nat.le_of_ble_eq_true rfl) dL_told_0 (fun H hz1 hold hP hD hS => ?_)
  refine lv_dup S.1 S.2.1 dL_told_3 rfl ?_
  refine lv_aload_n S.1 S.2.1 dL_told_4 rfl (lv_at hl 0 rfl) ?_
  refine lv_iconst (v := 0) S.1 S.2.1 dL_told_5 (by decide) ?_
  generalize s.heap.size = b at hP hD hz1 ⊢
  have hB0 := hB.app (x := sb0 b) hw
  refine x_aft (x_St (As := [.ref (α 0), .int 0]) (rest := [.ref b, .ref b]) S ms_L_text qw1401 (l_text0 l D A (w ++ sb0 b) α hR hN hB0 (by rw [List.length_append]; omega) (n0 := s.heap.size) hA e0 b0 c0) (stX_and stX_sz stX_cn) hK hP hD (hE.kept hS.2.1) ⟨hS.1, hC⟩ rfl rfl hl.1 (Nat.le_of_ble_eq_true rfl) rfl rfl ⟨(Nat.le_of_ble_eq_true rfl), (Nat.le_of_ble_eq_true rfl)⟩ ⟨(Nat.le_of_ble_eq_true rfl), (Nat.le_of_ble_eq_true rfl)⟩ dL_told_6) hS (fun _ h => h) (fun V H locs hq hz hk hS => ?_)
  obtain ⟨a0, x0, f0, w1, rfl, hf0, hw1, hB1, hs1, hP, hD⟩ := hq
  clear hz hk
  obtain ⟨u, rfl, hsu⟩ := w_same hs1 hw
  have hu : 234 ≤ u.length := by rw [hsu.1]; exact hw
  have hT0 := st_tx S.2.2.2.2 hK hP hD
  have hP := wp_left hP
  have hD := wd_left hD
  have hB := hB1.left hu
  clear hB0 hB1 hs1
  have g0 : ∀ j, j < n0 → fits .byte (.int (f0 j)) = true := fun j hj => by rw [hf0 j hj]; exact by_ (c0 j hj)
  refine bc_init S qw843 hK hP hD hE hS hA g0 (by omega) (BC.of hf0) hT0 hl.1 (Nat.le_of_ble_eq_true rfl) ⟨(Nat.le_of_ble_eq_true rfl), (Nat.le_of_ble_eq_true rfl)⟩ ⟨(by show 0 + 1 + 260 + 1 ≤ 2100; omega), (by show 0 + 4 + 10268 + (n0 + 16) ≤ 83200; omega)⟩ dL_told_9 (fun H locs v1 f hL hf hP hD hS => ?_)
  have hn : n0 ≤ n0 + 16 := by omega
  have h16 : 16 ≤ n0 + 16 := by omega
  have hm : n0 + 16 ≤ 20954 := by omega
  refine W.more (cells' := 262 + (n0 + 16) / 16) (slots' := 10272 + 2 * (n0 + 16)) ?_ (by omega) (by omega)
  have hb : n0 ≤ 2048 := b0
  generalize n0 + 16 = m at hP hD hn h16 hm ⊢
  refine lv_aload_n S.1 S.2.1 dL_told_12 rfl (lv_at hl 0 rfl) ?_
  refine lv_iconst (v := 1) S.1 S.2.1 dL_told_13 (by decide) ?_
  have hB0 := hB.app (x := sbW D b v1 m f n0) hu
  refine x_aft (x_St (As := [.ref (α 0), .int 1]) (rest := [.ref b]) S ms_L_text qw1401 (l_text1 l D A (u ++ sbW D b v1 m f n0) α hR hN hB0 (by rw [List.length_append]; omega) (n0 := s.heap.size) hA e1 b1 c1) (stX_and stX_sz stX_cn) hK hP hD (hE.kept hS.2.1) ⟨hS.1, hC⟩ rfl rfl hl.1 (Nat.le_of_ble_eq_true rfl) rfl rfl ⟨(Nat.le_of_ble_eq_true rfl), (Nat.le_of_ble_eq_true rfl)⟩ ⟨(by show 262 + m / 16 + 260 ≤ 2100; omega), (by show 10272 + 2 * m + 10268 ≤ 83200; omega)⟩ dL_told_14) hS (fun _ h => h) (fun V H locs hq hz hk hS => ?_)
  obtain ⟨a1, x1, f1, w2, rfl, hf1, hw2, hB1, hs1, hP, hD⟩ := hq
  clear hz hk
  obtain ⟨u1, rfl, hsu1⟩ := w_same hs1 hu
  have hu : 234 ≤ u1.length := by rw [hsu1.1]; exact hu
  have hT1 := st_tx S.2.2.2.2 hK hP hD
  have hP := wp_left hP
  have hD := wd_left hD
  have hB := hB1.left hu
  have hsu := hsu.trans hsu1
  clear hB0 hB1 hs1 hsu1
  have g1 : ∀ j, j < n1 → fits .byte (.int (f1 j)) = true := fun j hj => by rw [hf1 j hj]; exact by_ (c1 j hj)
  refine W.more (cells' := 522 + m / 16) (slots' := 20540 + 2 * m) ?_ (by omega) (by omega)
  refine bw_st (M := 20954) (cb := 522) (sb := 20540) S qw1002 hK hP hD hE hS hA hf hn h16 hm (Nat.le_of_ble_eq_true rfl) hL g1 (by omega) (BC.of hf1) hT1 (by rw [List.length_map, List.length_range]; omega) hl.1 (Nat.le_of_ble_eq_true rfl) ⟨(Nat.le_of_ble_eq_true rfl), (Nat.le_of_ble_eq_true rfl)⟩ ⟨(Nat.le_of_ble_eq_true rfl), (Nat.le_of_ble_eq_true rfl)⟩ dL_told_17 (fun H locs v1 f k1 m e9 hL hf hn h16 hm hP hD hS => ?_)
  have hb : k1 ≤ 4096 := by rw [List.length_map, List.length_range] at e9; omega
  clear e9
  refine lv_aload_n S.1 S.2.1 dL_told_20 rfl (lv_at hl 0 rfl) ?_
  refine lv_iconst (v := 2) S.1 S.2.1 dL_told_21 (by decide) ?_
  have hB0 := hB.app (x := sbW D b v1 m f k1) hu
  refine x_aft (x_St (As := [.ref (α 0), .int 2]) (rest := [.ref b]) S ms_L_text qw1401 (l_text2 l D A (u1 ++ sbW D b v1 m f k1) α hR hN hB0 (by rw [List.length_append]; omega) (n0 := s.heap.size) hA e2 b2 c2) (stX_and stX_sz stX_cn) hK hP hD (hE.kept hS.2.1) ⟨hS.1, hC⟩ rfl rfl hl.1 (Nat.le_of_ble_eq_true rfl) rfl rfl ⟨(Nat.le_of_ble_eq_true rfl), (Nat.le_of_ble_eq_true rfl)⟩ ⟨(by show 522 + m / 16 + 260 ≤ 2100; omega), (by show 20540 + 2 * m + 10268 ≤ 83200; omega)⟩ dL_told_22) hS (fun _ h => h) (fun V H locs hq hz hk hS => ?_)
  obtain ⟨a2, x2, f2, w3, rfl, hf2, hw3, hB1, hs1, hP, hD⟩ := hq
  clear hz hk
  obtain ⟨u2, rfl, hsu1⟩ := w_same hs1 hu
  have hu : 234 ≤ u2.length := by rw [hsu1.1]; exact hu
  have hT2 := st_tx S.2.2.2.2 hK hP hD
  have hP := wp_left hP
  have hD := wd_left hD
  have hB := hB1.left hu
  have hsu := hsu.trans hsu1
  clear hB0 hB1 hs1 hsu1
  have g2 : ∀ j, j < n2 → fits .byte (.int (f2 j)) = true := fun j hj => by rw [hf2 j hj]; exact by_ (c2 j hj)
  refine W.more (cells' := 782 + m / 16) (slots' := 30808 + 2 * m) ?_ (by omega) (by omega)
  refine bw_st (M := 20954) (cb := 782) (sb := 30808) S qw1002 hK hP hD hE hS hA hf hn h16 hm (Nat.le_of_ble_eq_true rfl) hL g2 (by omega) (BC.of hf2) hT2 (by rw [List.length_map, List.length_range]; omega) hl.1 (Nat.le_of_ble_eq_true rfl) ⟨(Nat.le_of_ble_eq_true rfl), (Nat.le_of_ble_eq_true rfl)⟩ ⟨(Nat.le_of_ble_eq_true rfl), (Nat.le_of_ble_eq_true rfl)⟩ dL_told_25 (fun H locs v1 f k2 m e9 hL hf hn h16 hm hP hD hS => ?_)
  have hb : k2 ≤ 6144 := by rw [List.length_map, List.length_range] at e9; omega
  clear e9
  refine lv_astore_n (lv' := [(1, .ref b), (0, .ref (α 0))]) S.1 S.2.1 dL_told_28 rfl hl (by decide) rfl (fun ls hl => ?_)
  refine lv_iconst (v := 0) S.1 S.2.1 dL_told_29 (by decide) ?_
  refine lv_istore_n (lv' := [(2, .int 0), (1, .ref b), (0, .ref (α 0))]) S.1 S.2.1 dL_told_30 rfl hl (by decide) rfl (fun ls hl => ?_)
  refine W.more (cells' := 782 + m / 16) (slots' := 30808 + 2 * m) ?_ (by omega) (by omega)
  exact tl_p S hK hE hA hG hC hr hlk hR hN h2 hP20 h3 hB6 (L0 := txL v n0 n1 n2) rfl P 0 hP hD hS hB hu hsu hf hn h16 hm hL (lv_sub hl [2, 1, 0] rfl) (Nat.zero_add P) (by omega) (iter_z _ _)
