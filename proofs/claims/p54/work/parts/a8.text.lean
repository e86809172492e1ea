/-! THE LAW: text -/
theorem cap_cells16 {q m : Nat} (hm : 16 ≤ m) : m / 16 + capC q m ≤ capq q m / 16 := by
  unfold capC capq
  split
  · omega
  · split <;> omega
theorem OB.left {D : va_G} {α : Nat → Nat} {u x : va_W} {v : VT} (h : OB D α (u ++ x) v) (hu : 234 ≤ u.length) : OB D α u v := h.agree (fun j hj => (List.getElem?_append_left (by omega)).symm)
theorem OB.app {D : va_G} {α : Nat → Nat} {u x : va_W} {v : VT} (h : OB D α u v) (hu : 234 ≤ u.length) : OB D α (u ++ x) v := h.agree (fun j hj => List.getElem?_append_left (by omega))
set_option maxHeartbeats 4000000 in
set_option maxRecDepth 100000 in
theorem l_text0 (l : Launch) (D : va_G) (A : Nat → Prop) (w : va_W) (α : Nat → Nat) {N P B Q : Nat} {v : VT} (hR : RA N P B Q v) (hN : N ≤ 600) (hB : OB D α w v) (hw : 234 ≤ w.length) {n n0 : Nat} (hA : ∀ q, n0 ≤ q → A q) (hlen : a_viewLength v = nI n) (hn : n ≤ 2048) (hb : ∀ j, j < n → asc (a_viewByte v (nI j))) : Met l yL_text (ws_ yL_text cL_text 5 (Option.some (Jvm.ClassFile.FieldType.object "java/lang/String"))) ({ frames := 9, cells := 260, slots := 10268, locals := 230 } : Room) (gPx D A [.ref (α 0), .int 0] w (fun U H => n0 ≤ H.size ∧ CN U)) (gG A (fun V H H1 => ∃ (a v1 : Nat) (f1 : Nat → Int32) (w1 : va_W), V = some (.ref a) ∧ (∀ j, j < n → f1 j = a_viewByte v (nI j)) ∧ 234 ≤ w1.length ∧ OB D α w1 v ∧ Same w w1 0 234 ∧ va_P D vwCl (w1 ++ stW D a v1 n f1) H1 ∧ va_D A (w1 ++ stW D a v1 n f1))) 260 10268 A := by
  refine g_metX [(0, .ref (α 0)), (1, .int 0)] (by decide +kernel) (Nat.le_of_ble_eq_true rfl) rfl (fun pg en s mi ar below me co ls S hK hP hD hE hS hx hr hlk hnm hl => ?_)
  have hA : ∀ q, s.heap.size ≤ q → A q := fun q hq => hA q (Nat.le_trans hx.1 hq)
  refine sb_new (u := w) S qw840 qw1024 hK hP hD hE hS hA hl.1 (Nat.le_of_ble_eq_true rfl) ⟨(Nat.le_of_ble_eq_true rfl), (Nat.le_of_ble_eq_true rfl)⟩ ⟨(Nat.le_of_ble_eq_true rfl), (Nat.le_of_ble_eq_true rfl)⟩ dL_text_0 dL_text_3 dL_text_4 (fun H locs b v1 hP hD hS hz hk => ?_)
  have hB := hB.app (x := sbW D b v1 16 z0 0) hw
  refine lv_astore_n (lv' := [(2, .ref b), (0, .ref (α 0)), (1, .int 0)]) S.1 S.2.1 dL_text_7 rfl hl (by decide) rfl (fun ls hl => ?_)
  refine lv_iload_n S.1 S.2.1 dL_text_8 rfl (lv_at hl 2 rfl) ?_
  refine lv_if_ne (tgt := 19) S.1 S.2.1 dL_text_9 (by decide) (fun z9 => absurd (by decide) z9) (fun _ => ?_)
  refine lv_aload_n S.1 S.2.1 dL_text_12 rfl (lv_at hl 1 rfl) ?_
  refine x_aftQ (st1 := [.int (a_viewLength v)]) (x_V0 (As := []) (rest := []) S mi_X11_viewLength qw1404 (k_viewLength l D A (w ++ sbW D b v1 16 z0 0) α hR hN  hB) hK hP hD (hE.kept hS.2.1) (hB.recv hK hP) rfl rfl hl.1 (Nat.le_of_ble_eq_true rfl) rfl rfl ⟨(Nat.le_of_ble_eq_true rfl), (Nat.le_of_ble_eq_true rfl)⟩ ⟨(by show _ + 0 ≤ _; first | omega | exact Nat.le_of_ble_eq_true rfl), (by show _ + 0 ≤ _; first | omega | exact Nat.le_of_ble_eq_true rfl)⟩ dL_text_13) hS (fun _ h => h) rfl (fun w1 H locs hq hP hD hz hk hS => ?_)
  obtain ⟨hB, hsm⟩ := hq
  clear hz hk
  rw [show (a_viewLength v) = (nI n) from hlen]
  obtain ⟨u, rfl, hsu⟩ := w_same hsm hw
  have hu : 234 ≤ u.length := by rw [hsu.1]; exact hw
  refine lv_goto (tgt := 35) S.1 S.2.1 dL_text_16 (by decide) ?_
  refine lv_istore_n (lv' := [(3, .int (nI n)), (2, .ref b), (0, .ref (α 0)), (1, .int 0)]) S.1 S.2.1 dL_text_35 rfl hl (by decide) rfl (fun ls hl => ?_)
  refine lv_iconst (v := 0) S.1 S.2.1 dL_text_36 (by decide) ?_
  refine lv_istore (lv' := [(4, .int 0), (3, .int (nI n)), (2, .ref b), (0, .ref (α 0)), (1, .int 0)]) S.1 S.2.1 dL_text_37 hl (by decide) rfl (fun ls hl => ?_)
  have loop : ∀ (r j : Nat) (u : va_W) (v1 m : Nat) (f : Nat → Int32) (H : Heap) (locs : List Loc) (ls : Array Slot), j + r = n → j ≤ m → 16 ≤ m → m ≤ 4098 → fbt f → (∀ i, i < j → f i = a_viewByte v (nI i)) → 234 ≤ u.length → OB D α (u ++ sbW D b v1 m f j) v → Same w u 0 234 → va_P D vwCl (u ++ sbW D b v1 m f j) H → va_D A (u ++ sbW D b v1 m f j) → va_S A s.heap H locs → lv_has ls 5 [(0, .ref (α 0)), (1, .int 0), (2, .ref b), (3, .int (nI n)), (4, .int (nI j))] → W pg l en ({ frames := 9, cells := 260, slots := 10268, locals := 230 } : Room) s mi ar below me co H locs (2 + m / 16) (20 + 2 * m) (MQ below (gG A (fun V H H1 => ∃ (a v1 : Nat) (f1 : Nat → Int32) (w1 : va_W), V = some (.ref a) ∧ (∀ j, j < n → f1 j = a_viewByte v (nI j)) ∧ 234 ≤ w1.length ∧ OB D α w1 v ∧ Same w w1 0 234 ∧ va_P D vwCl (w1 ++ stW D a v1 n f1) H1 ∧ va_D A (w1 ++ stW D a v1 n f1))) ar s 260 10268 A) (F0 mi 39 ls []) := by
    intro r
    induction r with
    | zero =>
      intro j u v1 m f H locs ls hj hjm hm16 hm hf hfb hu hB hsw hP hD hS hl
      have hj : j = n := hj
      subst hj
      refine lv_iload S.1 S.2.1 dL_text_39 (lv_at hl 4 rfl) ?_
      refine lv_iload_n S.1 S.2.1 dL_text_41 rfl (lv_at hl 3 rfl) ?_
      refine lv_icmp_ge (tgt := 90) S.1 S.2.1 dL_text_42 (by decide) (fun _ => ?_) (fun z9 => absurd (Int32.le_refl _) z9)
      refine lv_aload_n S.1 S.2.1 dL_text_90 rfl (lv_at hl 2 rfl) ?_
      refine sb_ts S qw1031 hK hP hD hE hS hA hx.2 hf hjm (by omega) hl.1 (Nat.le_of_ble_eq_true rfl) ⟨(Nat.le_of_ble_eq_true rfl), (Nat.le_of_ble_eq_true rfl)⟩ ⟨(by show 2 + m / 16 + 2 ≤ 260; omega), (by show 20 + 2 * m + (4 + j) ≤ 10268; omega)⟩ dL_text_91 (fun H locs a v2 f1 hf1 hP hD hS hz hk => ?_)
      refine W.more (cells' := 260) (slots' := 10268) ?_ (by omega) (by omega)
      exact x_aret S hr hlk hS ⟨a, v2, f1, u, rfl, fun i hi => (hf1 i hi).trans (hfb i hi), hu, hB.left hu, hsw, hP, hD⟩ dL_text_94
    | succ r ih =>
      intro j u v1 m f H locs ls hj hjm hm16 hm hf hfb hu hB hsw hP hD hS hl
      have hjn : j < n := by omega
      refine lv_iload S.1 S.2.1 dL_text_39 (lv_at hl 4 rfl) ?_
      refine lv_iload_n S.1 S.2.1 dL_text_41 rfl (lv_at hl 3 rfl) ?_
      refine lv_icmp_ge (tgt := 90) S.1 S.2.1 dL_text_42 (by decide) (fun z9 => absurd z9 (fun z9 => absurd ((nI_leI (by omega) (by omega)).mp z9) (by omega))) (fun _ => ?_)
      refine lv_aload_n S.1 S.2.1 dL_text_45 rfl (lv_at hl 2 rfl) ?_
      refine lv_iload_n S.1 S.2.1 dL_text_46 rfl (lv_at hl 1 rfl) ?_
      refine lv_if_ne (tgt := 59) S.1 S.2.1 dL_text_47 (by decide) (fun z9 => absurd (by decide) z9) (fun _ => ?_)
      refine lv_aload_n S.1 S.2.1 dL_text_50 rfl (lv_at hl 0 rfl) ?_
      refine lv_iload S.1 S.2.1 dL_text_51 (lv_at hl 4 rfl) ?_
      refine x_aftQ (st1 := [.int (a_viewByte v (nI j)), .ref b]) (x_V0 (As := [.int (nI j)]) (rest := [.ref b]) S mi_X11_viewByte qw1512 (k_viewByte l D A (u ++ sbW D b v1 m f j) α hR hN (nI j) hB) hK hP hD (hE.kept hS.2.1) (hB.recv hK hP) rfl rfl hl.1 (Nat.le_of_ble_eq_true rfl) rfl rfl ⟨(Nat.le_of_ble_eq_true rfl), (Nat.le_of_ble_eq_true rfl)⟩ ⟨(by show 2 + m / 16 + 0 ≤ 260; omega), (by show 20 + 2 * m + 0 ≤ 10268; omega)⟩ dL_text_53) hS (fun _ h => h) rfl (fun w31 H locs hq hP hD hz hk hS => ?_)
      obtain ⟨hB, hsm⟩ := hq
      clear hz hk
      obtain ⟨u1, rfl, hsu⟩ := w_same hsm hu
      have hu1 : 234 ≤ u1.length := by rw [hsu.1]; exact hu
      refine lv_goto (tgt := 79) S.1 S.2.1 dL_text_56 (by decide) ?_
      refine lv_i2c (v := (a_viewByte v (nI j))) S.1 S.2.1 dL_text_79 (asc_ok (hb j hjn)).2.2.1 ?_
      refine sb_ch S qw1003 hK hP hD hE hS hA hf hjm (by omega) (hb j hjn) hl.1 (Nat.le_of_ble_eq_true rfl) ⟨(Nat.le_of_ble_eq_true rfl), (Nat.le_of_ble_eq_true rfl)⟩ ⟨(by have := cap_cells16 (q := j + 1) hm16; have := cap_up (q := j + 1) hm (by omega); show 2 + m / 16 + capC (j + 1) m ≤ 260; omega), (by have := cap_slots (q := j + 1) (m := m); have := cap_up (q := j + 1) hm (by omega); show 20 + 2 * m + capS (j + 1) m ≤ 10268; omega)⟩ dL_text_80 (fun H locs v2 f1 hf0 hfc hf1 hP hD hS hz hk => ?_)
      refine lv_pop S.1 S.2.1 dL_text_83 rfl ?_
      refine lv_iinc (v := (nI (j + 1))) (lv' := [(4, .int (nI (j + 1))), (0, .ref (α 0)), (1, .int 0), (2, .ref b), (3, .int (nI n))]) S.1 S.2.1 dL_text_84 hl (k := 4) rfl ((nI_succ j).symm) (by decide) rfl (fun ls hl => ?_)
      refine lv_goto (tgt := 39) S.1 S.2.1 dL_text_87 (by decide) ?_
      refine W.more (cells' := 2 + capq (j + 1) m / 16) (slots' := 20 + 2 * capq (j + 1) m) ?_ (by have := cap_cells16 (q := j + 1) hm16; omega) (by have := cap_slots (q := j + 1) (m := m); omega)
      have hB := (hB.left hu1).app (x := sbW D b v2 (capq (j + 1) m) f1 (j + 1)) hu1
      exact ih (j + 1) u1 v2 (capq (j + 1) m) f1 _ _ _ (by omega) cap_le (by have := cap_cells (q := j + 1) (m := m); omega) (cap_up hm (by omega)) hf1 (fun i hi => by rcases Nat.lt_or_ge i j with h | h; exact (hf0 i h).trans (hfb i h); exact (show i = j by omega) ▸ hfc) hu1 hB (hsw.trans hsu) hP hD hS (lv_sub hl [1, 2, 3, 4, 0] rfl)
  refine W.more (cells' := 2 + 16 / 16) (slots' := 20 + 2 * 16) ?_ (Nat.le_of_ble_eq_true rfl) (Nat.le_of_ble_eq_true rfl)
  exact loop n 0 u v1 16 z0 _ _ _ (Nat.zero_add n) (Nat.zero_le _) (Nat.le_of_ble_eq_true rfl) (Nat.le_of_ble_eq_true rfl) (fun _ => show fits .byte (.int 0) = true by decide) (fun i hi => absurd hi (Nat.not_lt_zero i)) hu hB hsu hP hD hS (lv_sub hl [3, 4, 2, 1, 0] rfl)
set_option maxHeartbeats 4000000 in
set_option maxRecDepth 100000 in
theorem l_text1 (l : Launch) (D : va_G) (A : Nat → Prop) (w : va_W) (α : Nat → Nat) {N P B Q : Nat} {v : VT} (hR : RA N P B Q v) (hN : N ≤ 600) (hB : OB D α w v) (hw : 234 ≤ w.length) {n n0 : Nat} (hA : ∀ q, n0 ≤ q → A q) (hlen : a_storyLength v = nI n) (hn : n ≤ 2048) (hb : ∀ j, j < n → asc (a_storyByte v (nI j))) : Met l yL_text (ws_ yL_text cL_text 5 (Option.some (Jvm.ClassFile.FieldType.object "java/lang/String"))) ({ frames := 9, cells := 260, slots := 10268, locals := 230 } : Room) (gPx D A [.ref (α 0), .int 1] w (fun U H => n0 ≤ H.size ∧ CN U)) (gG A (fun V H H1 => ∃ (a v1 : Nat) (f1 : Nat → Int32) (w1 : va_W), V = some (.ref a) ∧ (∀ j, j < n → f1 j = a_storyByte v (nI j)) ∧ 234 ≤ w1.length ∧ OB D α w1 v ∧ Same w w1 0 234 ∧ va_P D vwCl (w1 ++ stW D a v1 n f1) H1 ∧ va_D A (w1 ++ stW D a v1 n f1))) 260 10268 A := by
  refine g_metX [(0, .ref (α 0)), (1, .int 1)] (by decide +kernel) (Nat.le_of_ble_eq_true rfl) rfl (fun pg en s mi ar below me co ls S hK hP hD hE hS hx hr hlk hnm hl => ?_)
  have hA : ∀ q, s.heap.size ≤ q → A q := fun q hq => hA q (Nat.le_trans hx.1 hq)
  refine sb_new (u := w) S qw840 qw1024 hK hP hD hE hS hA hl.1 (Nat.le_of_ble_eq_true rfl) ⟨(Nat.le_of_ble_eq_true rfl), (Nat.le_of_ble_eq_true rfl)⟩ ⟨(Nat.le_of_ble_eq_true rfl), (Nat.le_of_ble_eq_true rfl)⟩ dL_text_0 dL_text_3 dL_text_4 (fun H locs b v1 hP hD hS hz hk => ?_)
  have hB := hB.app (x := sbW D b v1 16 z0 0) hw
  refine lv_astore_n (lv' := [(2, .ref b), (0, .ref (α 0)), (1, .int 1)]) S.1 S.2.1 dL_text_7 rfl hl (by decide) rfl (fun ls hl => ?_)
  refine lv_iload_n S.1 S.2.1 dL_text_8 rfl (lv_at hl 2 rfl) ?_
  refine lv_if_ne (tgt := 19) S.1 S.2.1 dL_text_9 (by decide) (fun _ => ?_) (fun z9 => absurd z9 (by decide))
  refine lv_iload_n S.1 S.2.1 dL_text_19 rfl (lv_at hl 2 rfl) ?_
  refine lv_iconst (v := 1) S.1 S.2.1 dL_text_20 (by decide) ?_
  refine lv_icmp_ne (tgt := 31) S.1 S.2.1 dL_text_21 (by decide) (fun z9 => absurd (by decide) z9) (fun _ => ?_)
  refine lv_aload_n S.1 S.2.1 dL_text_24 rfl (lv_at hl 1 rfl) ?_
  refine x_aftQ (st1 := [.int (a_storyLength v)]) (x_V0 (As := []) (rest := []) S mi_X11_storyLength qw1455 (k_storyLength l D A (w ++ sbW D b v1 16 z0 0) α hR hN  hB) hK hP hD (hE.kept hS.2.1) (hB.recv hK hP) rfl rfl hl.1 (Nat.le_of_ble_eq_true rfl) rfl rfl ⟨(Nat.le_of_ble_eq_true rfl), (Nat.le_of_ble_eq_true rfl)⟩ ⟨(by show _ + 0 ≤ _; first | omega | exact Nat.le_of_ble_eq_true rfl), (by show _ + 0 ≤ _; first | omega | exact Nat.le_of_ble_eq_true rfl)⟩ dL_text_25) hS (fun _ h => h) rfl (fun w1 H locs hq hP hD hz hk hS => ?_)
  obtain ⟨hB, hsm⟩ := hq
  clear hz hk
  rw [show (a_storyLength v) = (nI n) from hlen]
  obtain ⟨u, rfl, hsu⟩ := w_same hsm hw
  have hu : 234 ≤ u.length := by rw [hsu.1]; exact hw
  refine lv_goto (tgt := 35) S.1 S.2.1 dL_text_28 (by decide) ?_
  refine lv_istore_n (lv' := [(3, .int (nI n)), (2, .ref b), (0, .ref (α 0)), (1, .int 1)]) S.1 S.2.1 dL_text_35 rfl hl (by decide) rfl (fun ls hl => ?_)
  refine lv_iconst (v := 0) S.1 S.2.1 dL_text_36 (by decide) ?_
  refine lv_istore (lv' := [(4, .int 0), (3, .int (nI n)), (2, .ref b), (0, .ref (α 0)), (1, .int 1)]) S.1 S.2.1 dL_text_37 hl (by decide) rfl (fun ls hl => ?_)
  have loop : ∀ (r j : Nat) (u : va_W) (v1 m : Nat) (f : Nat → Int32) (H : Heap) (locs : List Loc) (ls : Array Slot), j + r = n → j ≤ m → 16 ≤ m → m ≤ 4098 → fbt f → (∀ i, i < j → f i = a_storyByte v (nI i)) → 234 ≤ u.length → OB D α (u ++ sbW D b v1 m f j) v → Same w u 0 234 → va_P D vwCl (u ++ sbW D b v1 m f j) H → va_D A (u ++ sbW D b v1 m f j) → va_S A s.heap H locs → lv_has ls 5 [(0, .ref (α 0)), (1, .int 1), (2, .ref b), (3, .int (nI n)), (4, .int (nI j))] → W pg l en ({ frames := 9, cells := 260, slots := 10268, locals := 230 } : Room) s mi ar below me co H locs (2 + m / 16) (20 + 2 * m) (MQ below (gG A (fun V H H1 => ∃ (a v1 : Nat) (f1 : Nat → Int32) (w1 : va_W), V = some (.ref a) ∧ (∀ j, j < n → f1 j = a_storyByte v (nI j)) ∧ 234 ≤ w1.length ∧ OB D α w1 v ∧ Same w w1 0 234 ∧ va_P D vwCl (w1 ++ stW D a v1 n f1) H1 ∧ va_D A (w1 ++ stW D a v1 n f1))) ar s 260 10268 A) (F0 mi 39 ls []) := by
    intro r
    induction r with
    | zero =>
      intro j u v1 m f H locs ls hj hjm hm16 hm hf hfb hu hB hsw hP hD hS hl
      have hj : j = n := hj
      subst hj
      refine lv_iload S.1 S.2.1 dL_text_39 (lv_at hl 4 rfl) ?_
      refine lv_iload_n S.1 S.2.1 dL_text_41 rfl (lv_at hl 3 rfl) ?_
      refine lv_icmp_ge (tgt := 90) S.1 S.2.1 dL_text_42 (by decide) (fun _ => ?_) (fun z9 => absurd (Int32.le_refl _) z9)
      refine lv_aload_n S.1 S.2.1 dL_text_90 rfl (lv_at hl 2 rfl) ?_
      refine sb_ts S qw1031 hK hP hD hE hS hA hx.2 hf hjm (by omega) hl.1 (Nat.le_of_ble_eq_true rfl) ⟨(Nat.le_of_ble_eq_true rfl), (Nat.le_of_ble_eq_true rfl)⟩ ⟨(by show 2 + m / 16 + 2 ≤ 260; omega), (by show 20 + 2 * m + (4 + j) ≤ 10268; omega)⟩ dL_text_91 (fun H locs a v2 f1 hf1 hP hD hS hz hk => ?_)
      refine W.more (cells' := 260) (slots' := 10268) ?_ (by omega) (by omega)
      exact x_aret S hr hlk hS ⟨a, v2, f1, u, rfl, fun i hi => (hf1 i hi).trans (hfb i hi), hu, hB.left hu, hsw, hP, hD⟩ dL_text_94
    | succ r ih =>
      intro j u v1 m f H locs ls hj hjm hm16 hm hf hfb hu hB hsw hP hD hS hl
      have hjn : j < n := by omega
      refine lv_iload S.1 S.2.1 dL_text_39 (lv_at hl 4 rfl) ?_
      refine lv_iload_n S.1 S.2.1 dL_text_41 rfl (lv_at hl 3 rfl) ?_
      refine lv_icmp_ge (tgt := 90) S.1 S.2.1 dL_text_42 (by decide) (fun z9 => absurd z9 (fun z9 => absurd ((nI_leI (by omega) (by omega)).mp z9) (by omega))) (fun _ => ?_)
      refine lv_aload_n S.1 S.2.1 dL_text_45 rfl (lv_at hl 2 rfl) ?_
      refine lv_iload_n S.1 S.2.1 dL_text_46 rfl (lv_at hl 1 rfl) ?_
      refine lv_if_ne (tgt := 59) S.1 S.2.1 dL_text_47 (by decide) (fun _ => ?_) (fun z9 => absurd z9 (by decide))
      refine lv_iload_n S.1 S.2.1 dL_text_59 rfl (lv_at hl 1 rfl) ?_
      refine lv_iconst (v := 1) S.1 S.2.1 dL_text_60 (by decide) ?_
      refine lv_icmp_ne (tgt := 73) S.1 S.2.1 dL_text_61 (by decide) (fun z9 => absurd (by decide) z9) (fun _ => ?_)
      refine lv_aload_n S.1 S.2.1 dL_text_64 rfl (lv_at hl 0 rfl) ?_
      refine lv_iload S.1 S.2.1 dL_text_65 (lv_at hl 4 rfl) ?_
      refine x_aftQ (st1 := [.int (a_storyByte v (nI j)), .ref b]) (x_V0 (As := [.int (nI j)]) (rest := [.ref b]) S mi_X11_storyByte qw1517 (k_storyByte l D A (u ++ sbW D b v1 m f j) α hR hN (nI j) hB) hK hP hD (hE.kept hS.2.1) (hB.recv hK hP) rfl rfl hl.1 (Nat.le_of_ble_eq_true rfl) rfl rfl ⟨(Nat.le_of_ble_eq_true rfl), (Nat.le_of_ble_eq_true rfl)⟩ ⟨(by show 2 + m / 16 + 0 ≤ 260; omega), (by show 20 + 2 * m + 0 ≤ 10268; omega)⟩ dL_text_67) hS (fun _ h => h) rfl (fun w31 H locs hq hP hD hz hk hS => ?_)
      obtain ⟨hB, hsm⟩ := hq
      clear hz hk
      obtain ⟨u1, rfl, hsu⟩ := w_same hsm hu
      have hu1 : 234 ≤ u1.length := by rw [hsu.1]; exact hu
      refine lv_goto (tgt := 79) S.1 S.2.1 dL_text_70 (by decide) ?_
      refine lv_i2c (v := (a_storyByte v (nI j))) S.1 S.2.1 dL_text_79 (asc_ok (hb j hjn)).2.2.1 ?_
      refine sb_ch S qw1003 hK hP hD hE hS hA hf hjm (by omega) (hb j hjn) hl.1 (Nat.le_of_ble_eq_true rfl) ⟨(Nat.le_of_ble_eq_true rfl), (Nat.le_of_ble_eq_true rfl)⟩ ⟨(by have := cap_cells16 (q := j + 1) hm16; have := cap_up (q := j + 1) hm (by omega); show 2 + m / 16 + capC (j + 1) m ≤ 260; omega), (by have := cap_slots (q := j + 1) (m := m); have := cap_up (q := j + 1) hm (by omega); show 20 + 2 * m + capS (j + 1) m ≤ 10268; omega)⟩ dL_text_80 (fun H locs v2 f1 hf0 hfc hf1 hP hD hS hz hk => ?_)
      refine lv_pop S.1 S.2.1 dL_text_83 rfl ?_
      refine lv_iinc (v := (nI (j + 1))) (lv' := [(4, .int (nI (j + 1))), (0, .ref (α 0)), (1, .int 1), (2, .ref b), (3, .int (nI n))]) S.1 S.2.1 dL_text_84 hl (k := 4) rfl ((nI_succ j).symm) (by decide) rfl (fun ls hl => ?_)
      refine lv_goto (tgt := 39) S.1 S.2.1 dL_text_87 (by decide) ?_
      refine W.more (cells' := 2 + capq (j + 1) m / 16) (slots' := 20 + 2 * capq (j + 1) m) ?_ (by have := cap_cells16 (q := j + 1) hm16; omega) (by have := cap_slots (q := j + 1) (m := m); omega)
      have hB := (hB.left hu1).app (x := sbW D b v2 (capq (j + 1) m) f1 (j + 1)) hu1
      exact ih (j + 1) u1 v2 (capq (j + 1) m) f1 _ _ _ (by omega) cap_le (by have := cap_cells (q := j + 1) (m := m); omega) (cap_up hm (by omega)) hf1 (fun i hi => by rcases Nat.lt_or_ge i j with h | h; exact (hf0 i h).trans (hfb i h); exact (show i = j by omega) ▸ hfc) hu1 hB (hsw.trans hsu) hP hD hS (lv_sub hl [1, 2, 3, 4, 0] rfl)
  refine W.more (cells' := 2 + 16 / 16) (slots' := 20 + 2 * 16) ?_ (Nat.le_of_ble_eq_true rfl) (Nat.le_of_ble_eq_true rfl)
  exact loop n 0 u v1 16 z0 _ _ _ (Nat.zero_add n) (Nat.zero_le _) (Nat.le_of_ble_eq_true rfl) (Nat.le_of_ble_eq_true rfl) (fun _ => show fits .byte (.int 0) = true by decide) (fun i hi => absurd hi (Nat.not_lt_zero i)) hu hB hsu hP hD hS (lv_sub hl [3, 4, 2, 1, 0] rfl)
set_option maxHeartbeats 4000000 in
set_option maxRecDepth 100000 in
theorem l_text2 (l : Launch) (D : va_G) (A : Nat → Prop) (w : va_W) (α : Nat → Nat) {N P B Q : Nat} {v : VT} (hR : RA N P B Q v) (hN : N ≤ 600) (hB : OB D α w v) (hw : 234 ≤ w.length) {n n0 : Nat} (hA : ∀ q, n0 ≤ q → A q) (hlen : a_setupLength v = nI n) (hn : n ≤ 2048) (hb : ∀ j, j < n → asc (a_setupByte v (nI j))) : Met l yL_text (ws_ yL_text cL_text 5 (Option.some (Jvm.ClassFile.FieldType.object "java/lang/String"))) ({ frames := 9, cells := 260, slots := 10268, locals := 230 } : Room) (gPx D A [.ref (α 0), .int 2] w (fun U H => n0 ≤ H.size ∧ CN U)) (gG A (fun V H H1 => ∃ (a v1 : Nat) (f1 : Nat → Int32) (w1 : va_W), V = some (.ref a) ∧ (∀ j, j < n → f1 j = a_setupByte v (nI j)) ∧ 234 ≤ w1.length ∧ OB D α w1 v ∧ Same w w1 0 234 ∧ va_P D vwCl (w1 ++ stW D a v1 n f1) H1 ∧ va_D A (w1 ++ stW D a v1 n f1))) 260 10268 A := by
  refine g_metX [(0, .ref (α 0)), (1, .int 2)] (by decide +kernel) (Nat.le_of_ble_eq_true rfl) rfl (fun pg en s mi ar below me co ls S hK hP hD hE hS hx hr hlk hnm hl => ?_)
  have hA : ∀ q, s.heap.size ≤ q → A q := fun q hq => hA q (Nat.le_trans hx.1 hq)
  refine sb_new (u := w) S qw840 qw1024 hK hP hD hE hS hA hl.1 (Nat.le_of_ble_eq_true rfl) ⟨(Nat.le_of_ble_eq_true rfl), (Nat.le_of_ble_eq_true rfl)⟩ ⟨(Nat.le_of_ble_eq_true rfl), (Nat.le_of_ble_eq_true rfl)⟩ dL_text_0 dL_text_3 dL_text_4 (fun H locs b v1 hP hD hS hz hk => ?_)
  have hB := hB.app (x := sbW D b v1 16 z0 0) hw
  refine lv_astore_n (lv' := [(2, .ref b), (0, .ref (α 0)), (1, .int 2)]) S.1 S.2.1 dL_text_7 rfl hl (by decide) rfl (fun ls hl => ?_)
  refine lv_iload_n S.1 S.2.1 dL_text_8 rfl (lv_at hl 2 rfl) ?_
  refine lv_if_ne (tgt := 19) S.1 S.2.1 dL_text_9 (by decide) (fun _ => ?_) (fun z9 => absurd z9 (by decide))
  refine lv_iload_n S.1 S.2.1 dL_text_19 rfl (lv_at hl 2 rfl) ?_
  refine lv_iconst (v := 1) S.1 S.2.1 dL_text_20 (by decide) ?_
  refine lv_icmp_ne (tgt := 31) S.1 S.2.1 dL_text_21 (by decide) (fun _ => ?_) (fun z9 => absurd z9 (by decide))
  refine lv_aload_n S.1 S.2.1 dL_text_31 rfl (lv_at hl 1 rfl) ?_
  refine x_aftQ (st1 := [.int (a_setupLength v)]) (x_V0 (As := []) (rest := []) S mi_X11_setupLength qw1479 (k_setupLength l D A (w ++ sbW D b v1 16 z0 0) α hR hN  hB) hK hP hD (hE.kept hS.2.1) (hB.recv hK hP) rfl rfl hl.1 (Nat.le_of_ble_eq_true rfl) rfl rfl ⟨(Nat.le_of_ble_eq_true rfl), (Nat.le_of_ble_eq_true rfl)⟩ ⟨(by show _ + 0 ≤ _; first | omega | exact Nat.le_of_ble_eq_true rfl), (by show _ + 0 ≤ _; first | omega | exact Nat.le_of_ble_eq_true rfl)⟩ dL_text_32) hS (fun _ h => h) rfl (fun w1 H locs hq hP hD hz hk hS => ?_)
  obtain ⟨hB, hsm⟩ := hq
  clear hz hk
  rw [show (a_setupLength v) = (nI n) from hlen]
  obtain ⟨u, rfl, hsu⟩ := w_same hsm hw
  have hu : 234 ≤ u.length := by rw [hsu.1]; exact hw
  refine lv_istore_n (lv' := [(3, .int (nI n)), (2, .ref b), (0, .ref (α 0)), (1, .int 2)]) S.1 S.2.1 dL_text_35 rfl hl (by decide) rfl (fun ls hl => ?_)
  refine lv_iconst (v := 0) S.1 S.2.1 dL_text_36 (by decide) ?_
  refine lv_istore (lv' := [(4, .int 0), (3, .int (nI n)), (2, .ref b), (0, .ref (α 0)), (1, .int 2)]) S.1 S.2.1 dL_text_37 hl (by decide) rfl (fun ls hl => ?_)
  have loop : ∀ (r j : Nat) (u : va_W) (v1 m : Nat) (f : Nat → Int32) (H : Heap) (locs : List Loc) (ls : Array Slot), j + r = n → j ≤ m → 16 ≤ m → m ≤ 4098 → fbt f → (∀ i, i < j → f i = a_setupByte v (nI i)) → 234 ≤ u.length → OB D α (u ++ sbW D b v1 m f j) v → Same w u 0 234 → va_P D vwCl (u ++ sbW D b v1 m f j) H → va_D A (u ++ sbW D b v1 m f j) → va_S A s.heap H locs → lv_has ls 5 [(0, .ref (α 0)), (1, .int 2), (2, .ref b), (3, .int (nI n)), (4, .int (nI j))] → W pg l en ({ frames := 9, cells := 260, slots := 10268, locals := 230 } : Room) s mi ar below me co H locs (2 + m / 16) (20 + 2 * m) (MQ below (gG A (fun V H H1 => ∃ (a v1 : Nat) (f1 : Nat → Int32) (w1 : va_W), V = some (.ref a) ∧ (∀ j, j < n → f1 j = a_setupByte v (nI j)) ∧ 234 ≤ w1.length ∧ OB D α w1 v ∧ Same w w1 0 234 ∧ va_P D vwCl (w1 ++ stW D a v1 n f1) H1 ∧ va_D A (w1 ++ stW D a v1 n f1))) ar s 260 10268 A) (F0 mi 39 ls []) := by
    intro r
    induction r with
    | zero =>
      intro j u v1 m f H locs ls hj hjm hm16 hm hf hfb hu hB hsw hP hD hS hl
      have hj : j = n := hj
      subst hj
      refine lv_iload S.1 S.2.1 dL_text_39 (lv_at hl 4 rfl) ?_
      refine lv_iload_n S.1 S.2.1 dL_text_41 rfl (lv_at hl 3 rfl) ?_
      refine lv_icmp_ge (tgt := 90) S.1 S.2.1 dL_text_42 (by decide) (fun _ => ?_) (fun z9 => absurd (Int32.le_refl _) z9)
      refine lv_aload_n S.1 S.2.1 dL_text_90 rfl (lv_at hl 2 rfl) ?_
      refine sb_ts S qw1031 hK hP hD hE hS hA hx.2 hf hjm (by omega) hl.1 (Nat.le_of_ble_eq_true rfl) ⟨(Nat.le_of_ble_eq_true rfl), (Nat.le_of_ble_eq_true rfl)⟩ ⟨(by show 2 + m / 16 + 2 ≤ 260; omega), (by show 20 + 2 * m + (4 + j) ≤ 10268; omega)⟩ dL_text_91 (fun H locs a v2 f1 hf1 hP hD hS hz hk => ?_)
      refine W.more (cells' := 260) (slots' := 10268) ?_ (by omega) (by omega)
      exact x_aret S hr hlk hS ⟨a, v2, f1, u, rfl, fun i hi => (hf1 i hi).trans (hfb i hi), hu, hB.left hu, hsw, hP, hD⟩ dL_text_94
    | succ r ih =>
      intro j u v1 m f H locs ls hj hjm hm16 hm hf hfb hu hB hsw hP hD hS hl
      have hjn : j < n := by omega
      refine lv_iload S.1 S.2.1 dL_text_39 (lv_at hl 4 rfl) ?_
      refine lv_iload_n S.1 S.2.1 dL_text_41 rfl (lv_at hl 3 rfl) ?_
      refine lv_icmp_ge (tgt := 90) S.1 S.2.1 dL_text_42 (by decide) (fun z9 => absurd z9 (fun z9 => absurd ((nI_leI (by omega) (by omega)).mp z9) (by omega))) (fun _ => ?_)
      refine lv_aload_n S.1 S.2.1 dL_text_45 rfl (lv_at hl 2 rfl) ?_
      refine lv_iload_n S.1 S.2.1 dL_text_46 rfl (lv_at hl 1 rfl) ?_
      refine lv_if_ne (tgt := 59) S.1 S.2.1 dL_text_47 (by decide) (fun _ => ?_) (fun z9 => absurd z9 (by decide))
      refine lv_iload_n S.1 S.2.1 dL_text_59 rfl (lv_at hl 1 rfl) ?_
      refine lv_iconst (v := 1) S.1 S.2.1 dL_text_60 (by decide) ?_
      refine lv_icmp_ne (tgt := 73) S.1 S.2.1 dL_text_61 (by decide) (fun _ => ?_) (fun z9 => absurd z9 (by decide))
      refine lv_aload_n S.1 S.2.1 dL_text_73 rfl (lv_at hl 0 rfl) ?_
      refine lv_iload S.1 S.2.1 dL_text_74 (lv_at hl 4 rfl) ?_
      refine x_aftQ (st1 := [.int (a_setupByte v (nI j)), .ref b]) (x_V0 (As := [.int (nI j)]) (rest := [.ref b]) S mi_X11_setupByte qw1521 (k_setupByte l D A (u ++ sbW D b v1 m f j) α hR hN (nI j) hB) hK hP hD (hE.kept hS.2.1) (hB.recv hK hP) rfl rfl hl.1 (Nat.le_of_ble_eq_true rfl) rfl rfl ⟨(Nat.le_of_ble_eq_true rfl), (Nat.le_of_ble_eq_true rfl)⟩ ⟨(by show 2 + m / 16 + 0 ≤ 260; omega), (by show 20 + 2 * m + 0 ≤ 10268; omega)⟩ dL_text_76) hS (fun _ h => h) rfl (fun w31 H locs hq hP hD hz hk hS => ?_)
      obtain ⟨hB, hsm⟩ := hq
      clear hz hk
      obtain ⟨u1, rfl, hsu⟩ := w_same hsm hu
      have hu1 : 234 ≤ u1.length := by rw [hsu.1]; exact hu
      refine lv_i2c (v := (a_setupByte v (nI j))) S.1 S.2.1 dL_text_79 (asc_ok (hb j hjn)).2.2.1 ?_
      refine sb_ch S qw1003 hK hP hD hE hS hA hf hjm (by omega) (hb j hjn) hl.1 (Nat.le_of_ble_eq_true rfl) ⟨(Nat.le_of_ble_eq_true rfl), (Nat.le_of_ble_eq_true rfl)⟩ ⟨(by have := cap_cells16 (q := j + 1) hm16; have := cap_up (q := j + 1) hm (by omega); show 2 + m / 16 + capC (j + 1) m ≤ 260; omega), (by have := cap_slots (q := j + 1) (m := m); have := cap_up (q := j + 1) hm (by omega); show 20 + 2 * m + capS (j + 1) m ≤ 10268; omega)⟩ dL_text_80 (fun H locs v2 f1 hf0 hfc hf1 hP hD hS hz hk => ?_)
      refine lv_pop S.1 S.2.1 dL_text_83 rfl ?_
      refine lv_iinc (v := (nI (j + 1))) (lv' := [(4, .int (nI (j + 1))), (0, .ref (α 0)), (1, .int 2), (2, .ref b), (3, .int (nI n))]) S.1 S.2.1 dL_text_84 hl (k := 4) rfl ((nI_succ j).symm) (by decide) rfl (fun ls hl => ?_)
      refine lv_goto (tgt := 39) S.1 S.2.1 dL_text_87 (by decide) ?_
      refine W.more (cells' := 2 + capq (j + 1) m / 16) (slots' := 20 + 2 * capq (j + 1) m) ?_ (by have := cap_cells16 (q := j + 1) hm16; omega) (by have := cap_slots (q := j + 1) (m := m); omega)
      have hB := (hB.left hu1).app (x := sbW D b v2 (capq (j + 1) m) f1 (j + 1)) hu1
      exact ih (j + 1) u1 v2 (capq (j + 1) m) f1 _ _ _ (by omega) cap_le (by have := cap_cells (q := j + 1) (m := m); omega) (cap_up hm (by omega)) hf1 (fun i hi => by rcases Nat.lt_or_ge i j with h | h; exact (hf0 i h).trans (hfb i h); exact (show i = j by omega) ▸ hfc) hu1 hB (hsw.trans hsu) hP hD hS (lv_sub hl [1, 2, 3, 4, 0] rfl)
  refine W.more (cells' := 2 + 16 / 16) (slots' := 20 + 2 * 16) ?_ (Nat.le_of_ble_eq_true rfl) (Nat.le_of_ble_eq_true rfl)
  exact loop n 0 u v1 16 z0 _ _ _ (Nat.zero_add n) (Nat.zero_le _) (Nat.le_of_ble_eq_true rfl) (Nat.le_of_ble_eq_true rfl) (fun _ => show fits .byte (.int 0) = true by decide) (fun i hi => absurd hi (Nat.not_lt_zero i)) hu hB hsu hP hD hS (lv_sub hl [3, 4, 2, 1, 0] rfl)
