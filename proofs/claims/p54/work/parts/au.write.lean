/-! THE LAW: write -/
def wrQ (D : va_G) (A : Nat → Prop) (α : Nat → Nat) (w0 : va_W) (v0 : VT) (N0 P B Q n : Nat) (ch : Nat → Nat) : Array Value → State → Outcome → State → Prop := gG A (fun V _ H1 => ∃ (v1 : VT) (w1 : va_W) (N1 : Nat), V = none ∧ OB D α w1 v1 ∧ TPS v0 v1 n ch ∧ N1 ≤ N0 + 41 ∧ RA N1 P B Q v1 ∧ 234 ≤ w1.length ∧ Same w0 w1 0 234 ∧ va_P D vwCl w1 H1 ∧ va_D A w1)
section WRI
variable {pg : Program} {l : Launch} {en : Env} {s : State} {mi : MethodId} {ar : Array Value} {below : List Frame} {me : Method} {co : Code} {H : Heap} {locs : List Loc} {ls : Array Slot} {D : va_G} {A : Nat → Prop} {α : Nat → Nat} {w0 u : va_W} {v v0 : VT} {N0 N P B Q : Nat} {a x n k b : Nat} {bs f : Nat → Int32} {ch : Nat → Nat} {h0 : Int32}
set_option maxHeartbeats 4000000 in
set_option maxRecDepth 100000 in
theorem wr_end (S : CallFix pg mi co cL_write 7 s ar lw_all RL) (hK : va_K D vwCl (gTys D) s) (hE : EV D A s s.heap) (hA : ∀ q, s.heap.size ≤ q → A q) (hT : Tx A s s.heap a x n bs) (hbs : ∀ j, j < n → bs j = nI (ch j)) (hch : ∀ i, ch i < 128) (h32 : ∀ i, n ≤ i → ch i = 32) (hn : n ≤ 760) (hr : me.sig.returnType = none) (hlk : me.locks = false) (hN0 : N0 ≤ 550) {r : Nat} (hP : va_P D vwCl u H) (hD : va_D A u) (hS : va_S A s.heap H locs) (hu : 234 ≤ u.length) (hs0 : Same w0 u 0 234) (hB : OB D α u v) (hR : RA N P B Q v) (ht : TPS v0 v (20 * r) ch) (hN : N ≤ N0 + r + 1) (hr1 : n ≤ 20 * r) (hr2 : 20 * r < n + 20) (hl : lv_has ls 7 [(3, .int (nI k)), (2, .int h0), (1, .ref a), (0, .ref (α 0))]) : W pg l en ({ frames := 8, cells := 40, slots := 200, locals := 200 } : Room) s mi ar below me co H locs (r) (5 * r) (MQ below (wrQ D A α w0 v0 N0 P B Q n ch) ar s 40 200 A) (F0 mi 117 ls []) := by
  refine lv_aload_n S.1 S.2.1 dL_write_117 rfl (lv_at hl 3 rfl) ?_
  refine lv_bipush (v := 20) S.1 S.2.1 dL_write_118 (by decide) ?_
  refine lv_aload_n S.1 S.2.1 dL_write_120 rfl (lv_at hl 2 rfl) ?_
  refine x_aftR (st1 := [.int (nI n), .int 20, .ref (α 0)]) (x_V (As := []) (rest := [.int 20, .ref (α 0)]) S mi_J0_length_8abf5 qw540 (x_J0_length_8abf5 l D A u a x n bs) stX_tx hK hP hD (hE.kept hS.2.1) (hT.kept hS.2.1) (hT.kept hS.2.1).recv rfl rfl hl.1 (Nat.le_of_ble_eq_true rfl) rfl rfl ⟨(Nat.le_of_ble_eq_true rfl), (Nat.le_of_ble_eq_true rfl)⟩ ⟨(by show r + 0 ≤ 40; omega), (by show 5 * r + 0 ≤ 200; omega)⟩ dL_write_121) hS (fun _ h => h) rfl (fun locs hS => ?_)
  refine lv_bipush (v := 20) S.1 S.2.1 dL_write_124 (by decide) ?_
  refine lv_irem S.1 S.2.1 dL_write_126 (by decide) ?_
  rw [show nI n - nI n / 20 * 20 = nI (n % 20) from pk_rem (d := 20) (by omega) (by decide) (by decide)]
  refine lv_isub S.1 S.2.1 dL_write_127 ?_
  rw [show (20 : Int32) - nI (n % 20) = nI (20 - n % 20) from nI_sub (a := 20) (by omega)]
  refine lv_bipush (v := 20) S.1 S.2.1 dL_write_128 (by decide) ?_
  refine lv_irem S.1 S.2.1 dL_write_130 (by decide) ?_
  rw [show nI (20 - n % 20) - nI (20 - n % 20) / 20 * 20 = nI ((20 - n % 20) % 20) from pk_rem (d := 20) (by omega) (by decide) (by decide)]
  have hz2 : 20 * r - n = (20 - n % 20) % 20 := by omega
  refine x_aftQ (st1 := [.int (a_truncate v (nI ((20 - n % 20) % 20)))]) (x_V0 (As := [.int (nI ((20 - n % 20) % 20))]) (rest := []) S mi_X11_truncate qw532 (k_truncate l D A u α hR (by omega) (nI ((20 - n % 20) % 20)) hB) hK hP hD (hE.kept hS.2.1) (hB.recv hK hP) rfl rfl hl.1 (Nat.le_of_ble_eq_true rfl) rfl rfl ⟨(Nat.le_of_ble_eq_true rfl), (Nat.le_of_ble_eq_true rfl)⟩ ⟨(by show r + 0 ≤ 40; omega), (by show 5 * r + 0 ≤ 200; omega)⟩ dL_write_131) hS (fun _ h => h) rfl (fun w1 H locs hq hP hD hz hk2 hS => ?_)
  obtain ⟨hB1, hsm⟩ := hq
  clear hz hk2
  have hR1 := q_truncate hR (by omega) (nI ((20 - n % 20) % 20))
  have hT1 : TPS v0 (n_truncate v (nI ((20 - n % 20) % 20))) n ch := tps_cut ht (by omega) (by omega) (congrArg nI hz2.symm)
  have hw1 : 234 ≤ w1.length := by rw [hsm.1]; exact hu
  generalize a_truncate v (nI ((20 - n % 20) % 20)) = y
  refine lv_istore_n (lv' := [(2, .int y), (3, .int (nI k)), (1, .ref a), (0, .ref (α 0))]) S.1 S.2.1 dL_write_134 rfl hl (by decide) rfl (fun ls hl => ?_)
  refine W.more (cells' := 40) (slots' := 200) ?_ (by omega) (by omega)
  exact x_vret S hr hlk hS ⟨_, w1, N + 1, rfl, hB1, hT1, by omega, hR1, hw1, hs0.trans hsm, hP, hD⟩ dL_write_135
set_option maxHeartbeats 4000000 in
set_option maxRecDepth 100000 in
theorem wr_c (S : CallFix pg mi co cL_write 7 s ar lw_all RL) (hK : va_K D vwCl (gTys D) s) (hE : EV D A s s.heap) (hA : ∀ q, s.heap.size ≤ q → A q) (hT : Tx A s s.heap a x n bs) (hbs : ∀ j, j < n → bs j = nI (ch j)) (hch : ∀ i, ch i < 128) (h32 : ∀ i, n ≤ i → ch i = 32) (hn : n ≤ 760) {r i : Nat} (hi : i < 20) (hrr : r < 40) (kk : ∀ {f : Nat → Int32} {H : Heap} {locs : List Loc} {ls : Array Slot}, va_P D vwCl (u ++ [(b, .inl (D.1 100, 5, .inl f))]) H → va_D A (u ++ [(b, .inl (D.1 100, 5, .inl f))]) → va_S A s.heap H locs → (∀ j, j < 5 → f j = nI (pw ch (k + 4 * j) (min (i + 1 - 4 * j) 4))) → lv_has ls 7 [(5, .int (nI (i + 1))), (4, .ref b), (3, .int (nI k)), (2, .int h0), (1, .ref a), (0, .ref (α 0))] → W pg l en ({ frames := 8, cells := 40, slots := 200, locals := 200 } : Room) s mi ar below me co H locs (r + 1) (5 * r + 5) (MQ below (wrQ D A α w0 v0 N0 P B Q n ch) ar s 40 200 A) (F0 mi 27 ls [])) (hP : va_P D vwCl (u ++ [(b, .inl (D.1 100, 5, .inl f))]) H) (hD : va_D A (u ++ [(b, .inl (D.1 100, 5, .inl f))])) (hS : va_S A s.heap H locs) (hf : ∀ j, j < 5 → f j = nI (pw ch (k + 4 * j) (min (i - 4 * j) 4))) (hl : lv_has ls 7 [(5, .int (nI i)), (4, .ref b), (3, .int (nI k)), (2, .int h0), (1, .ref a), (0, .ref (α 0))]) : W pg l en ({ frames := 8, cells := 40, slots := 200, locals := 200 } : Room) s mi ar below me co H locs (r + 1) (5 * r + 5) (MQ below (wrQ D A α w0 v0 N0 P B Q n ch) ar s 40 200 A) (F0 mi 58 ls [.int (nI (ch (k + i)))]) := by
  have ha : (u ++ [(b, .inl (D.1 100, 5, .inl f))])[u.length]? = some (b, .inl (D.1 100, 5, .inl f)) := by rw [List.getElem?_append_right (Nat.le_refl _), Nat.sub_self]; rfl
  have ef : f (nI (i / 4)).toNatClampNeg = nI (pw ch (k + 4 * (i / 4)) (i % 4)) := by
    rw [nI_clamp (by omega), hf _ (by omega), show min (i - 4 * (i / 4)) 4 = i % 4 by omega]
  have hpl := pw_lt hch (k + 4 * (i / 4))
  have hp : pw ch (k + 4 * (i / 4)) (i % 4) < 8388608 := by
    have h4 : i % 4 < 4 := Nat.mod_lt _ (by decide)
    generalize i % 4 = t at h4 ⊢
    match t, h4 with
    | 0, _ => exact hpl.1
    | 1, _ => exact hpl.2.1
    | 2, _ => exact hpl.2.2.1
    | 3, _ => exact hpl.2.2.2.1
  refine lv_istore (lv' := [(6, .int (nI (ch (k + i)))), (5, .int (nI i)), (4, .ref b), (3, .int (nI k)), (2, .int h0), (1, .ref a), (0, .ref (α 0))]) S.1 S.2.1 dL_write_58 hl (by decide) rfl (fun ls hl => ?_)
  refine lv_aload S.1 S.2.1 dL_write_60 (lv_at hl 2 rfl) ?_
  refine lv_iload S.1 S.2.1 dL_write_62 (lv_at hl 1 rfl) ?_
  refine lv_iconst (v := 4) S.1 S.2.1 dL_write_64 (by decide) ?_
  refine lv_idiv S.1 S.2.1 dL_write_65 (by decide) ?_
  rw [show nI i / 4 = nI (i / 4) from pk_div (d := 4) (by omega) (by decide) (by decide)]
  refine lv_aload S.1 S.2.1 dL_write_66 (lv_at hl 2 rfl) ?_
  refine lv_iload S.1 S.2.1 dL_write_68 (lv_at hl 1 rfl) ?_
  refine lv_iconst (v := 4) S.1 S.2.1 dL_write_70 (by decide) ?_
  refine lv_idiv S.1 S.2.1 dL_write_71 (by decide) ?_
  rw [show nI i / 4 = nI (i / 4) from pk_div (d := 4) (by omega) (by decide) (by decide)]
  refine g_iald (q0 := u.length) S hK hP ha (vp_in_nI (by omega) (by decide)) dL_write_72 ?_
  rw [show f (nI (i / 4)).toNatClampNeg = nI (pw ch (k + 4 * (i / 4)) (i % 4)) from ef]
  refine lv_bipush (v := 8) S.1 S.2.1 dL_write_73 (by decide) ?_
  refine lv_ishl S.1 S.2.1 dL_write_75 ?_
  refine lv_iload S.1 S.2.1 dL_write_76 (lv_at hl 0 rfl) ?_
  refine lv_ior S.1 S.2.1 dL_write_78 ?_
  rw [show (nI (pw ch (k + 4 * (i / 4)) (i % 4)) <<< ((8 : Int32) &&& 31)) ||| nI (ch (k + i)) = nI (pw ch (k + 4 * (i / 4)) (i % 4) * 256 + ch (k + i)) from w_step hp (by have := hch (k + i); omega)]
  refine g_iast (q0 := u.length) S hK hP hD hS ha (vp_in_nI (by omega) (by decide)) dL_write_79 (fun w1 H locs hw hP hD hS => ?_)
  have e1 : w1 = u ++ [(b, .inl (D.1 100, 5, .inl (upd f (nI (i / 4)).toNatClampNeg (nI (pw ch (k + 4 * (i / 4)) (i % 4) * 256 + ch (k + i))))))] := by
    rw [hw, List.set_append_right _ _ (Nat.le_refl _), Nat.sub_self]
    rfl
  subst e1
  rw [nI_clamp (by omega)] at hP hD
  have hf1 : ∀ j, j < 5 → upd f (i / 4) (nI (pw ch (k + 4 * (i / 4)) (i % 4) * 256 + ch (k + i))) j = nI (pw ch (k + 4 * j) (min (i + 1 - 4 * j) 4)) := fun j hj => by
    unfold upd
    by_cases q : j = i / 4
    · rw [if_pos q, q, show min (i + 1 - 4 * (i / 4)) 4 = i % 4 + 1 by omega]
      show _ = nI (pw ch (k + 4 * (i / 4)) (i % 4) * 256 + ch (k + 4 * (i / 4) + i % 4))
      rw [show k + 4 * (i / 4) + i % 4 = k + i by omega]
    · rw [if_neg q, hf j hj, show min (i + 1 - 4 * j) 4 = min (i - 4 * j) 4 by omega]
  refine lv_iinc (v := (nI (i + 1))) (lv' := [(5, .int (nI (i + 1))), (6, .int (nI (ch (k + i)))), (4, .ref b), (3, .int (nI k)), (2, .int h0), (1, .ref a), (0, .ref (α 0))]) S.1 S.2.1 dL_write_80 hl (k := 1) rfl ((nI_succ i).symm) (by decide) rfl (fun ls hl => ?_)
  refine lv_goto (tgt := 27) S.1 S.2.1 dL_write_83 (by decide) ?_
  exact kk hP hD hS hf1 (lv_sub hl [0, 2, 3, 4, 5, 6] rfl)
set_option maxHeartbeats 4000000 in
set_option maxRecDepth 100000 in
theorem wr_i (S : CallFix pg mi co cL_write 7 s ar lw_all RL) (hK : va_K D vwCl (gTys D) s) (hE : EV D A s s.heap) (hA : ∀ q, s.heap.size ≤ q → A q) (hT : Tx A s s.heap a x n bs) (hbs : ∀ j, j < n → bs j = nI (ch j)) (hch : ∀ i, ch i < 128) (h32 : ∀ i, n ≤ i → ch i = 32) (hn : n ≤ 760) {r : Nat} (hrr : r < 40) (hkr : k ≤ 780) (kk : ∀ {f : Nat → Int32} {H : Heap} {locs : List Loc} {ls : Array Slot}, va_P D vwCl (u ++ [(b, .inl (D.1 100, 5, .inl f))]) H → va_D A (u ++ [(b, .inl (D.1 100, 5, .inl f))]) → va_S A s.heap H locs → (∀ j, j < 5 → f j = nI (pw ch (k + 4 * j) (4))) → lv_has ls 7 [(4, .ref b), (3, .int (nI k)), (2, .int h0), (1, .ref a), (0, .ref (α 0))] → W pg l en ({ frames := 8, cells := 40, slots := 200, locals := 200 } : Room) s mi ar below me co H locs (r + 1) (5 * r + 5) (MQ below (wrQ D A α w0 v0 N0 P B Q n ch) ar s 40 200 A) (F0 mi 86 ls [])) (q : Nat) {i : Nat} (hP : va_P D vwCl (u ++ [(b, .inl (D.1 100, 5, .inl f))]) H) (hD : va_D A (u ++ [(b, .inl (D.1 100, 5, .inl f))])) (hS : va_S A s.heap H locs) (hf : ∀ j, j < 5 → f j = nI (pw ch (k + 4 * j) (min (i - 4 * j) 4))) (hl : lv_has ls 7 [(5, .int (nI i)), (4, .ref b), (3, .int (nI k)), (2, .int h0), (1, .ref a), (0, .ref (α 0))]) (hq : i + q = 20) : W pg l en ({ frames := 8, cells := 40, slots := 200, locals := 200 } : Room) s mi ar below me co H locs (r + 1) (5 * r + 5) (MQ below (wrQ D A α w0 v0 N0 P B Q n ch) ar s 40 200 A) (F0 mi 27 ls []) := by
  induction q generalizing i f H locs ls with
  | zero =>
    have hi : i = 20 := hq
    subst hi
    refine lv_iload S.1 S.2.1 dL_write_27 (lv_at hl 0 rfl) ?_
    refine lv_bipush (v := 20) S.1 S.2.1 dL_write_29 (by decide) ?_
    refine lv_icmp_ge (tgt := 86) S.1 S.2.1 dL_write_31 (by decide) (fun _ => ?_) (fun z9 => absurd (Int32.le_refl _) z9)
    exact kk hP hD hS (fun j hj => by rw [hf j hj, show min (20 - 4 * j) 4 = 4 by omega]) (lv_sub hl [1, 2, 3, 4, 5] rfl)
  | succ q ih =>
    refine lv_iload S.1 S.2.1 dL_write_27 (lv_at hl 0 rfl) ?_
    refine lv_bipush (v := 20) S.1 S.2.1 dL_write_29 (by decide) ?_
    refine lv_icmp_ge (tgt := 86) S.1 S.2.1 dL_write_31 (by decide) (fun z9 => absurd z9 (fun z9 => absurd ((nI_leI (a := 20) (by omega) (by omega)).mp z9) (by omega))) (fun _ => ?_)
    refine lv_iload_n S.1 S.2.1 dL_write_34 rfl (lv_at hl 2 rfl) ?_
    refine lv_iload S.1 S.2.1 dL_write_35 (lv_at hl 0 rfl) ?_
    refine lv_iadd S.1 S.2.1 dL_write_37 ?_
    rw [show nI k + nI i = nI (k + i) from nI_add k i]
    refine lv_aload_n S.1 S.2.1 dL_write_38 rfl (lv_at hl 4 rfl) ?_
    refine x_aftR (st1 := [.int (nI n), .int (nI (k + i))]) (x_V (As := []) (rest := [.int (nI (k + i))]) S mi_J0_length_8abf5 qw540 (x_J0_length_8abf5 l D A (u ++ [(b, .inl (D.1 100, 5, .inl f))]) a x n bs) stX_tx hK hP hD (hE.kept hS.2.1) (hT.kept hS.2.1) (hT.kept hS.2.1).recv rfl rfl hl.1 (Nat.le_of_ble_eq_true rfl) rfl rfl ⟨(Nat.le_of_ble_eq_true rfl), (Nat.le_of_ble_eq_true rfl)⟩ ⟨(by show r + 1 + 0 ≤ 40; omega), (by show 5 * r + 5 + 0 ≤ 200; omega)⟩ dL_write_39) hS (fun _ h => h) rfl (fun locs hS => ?_)
    refine lv_icmp_ge (tgt := 56) S.1 S.2.1 dL_write_42 (by decide) (fun c2 => ?_) (fun c2 => ?_)
    · have c2 := (nI_leI (by omega) (by omega)).mp c2
      refine lv_bipush (v := 32) S.1 S.2.1 dL_write_56 (by decide) ?_
      rw [show (Value.int 32) = .int (nI (ch (k + i))) from by rw [h32 _ c2]; rfl]
      exact wr_c S hK hE hA hT hbs hch h32 hn (by omega) hrr (fun hP hD hS hf hl => ih (i := i + 1) hP hD hS hf hl (by omega)) hP hD hS hf hl
    · have c2 : k + i < n := Nat.lt_of_not_le (fun z => c2 (nI_le z (by omega)))
      refine lv_aload_n S.1 S.2.1 dL_write_45 rfl (lv_at hl 4 rfl) ?_
      refine lv_iload_n S.1 S.2.1 dL_write_46 rfl (lv_at hl 2 rfl) ?_
      refine lv_iload S.1 S.2.1 dL_write_47 (lv_at hl 0 rfl) ?_
      refine lv_iadd S.1 S.2.1 dL_write_49 ?_
      rw [show nI k + nI i = nI (k + i) from nI_add k i]
      refine x_aftR (st1 := [.int (bs (k + i))]) (x_V (As := [.int (nI (k + i))]) (rest := []) S mi_J0_charAt_5068e qw550 (x_J0_charAt_5068e l D A (u ++ [(b, .inl (D.1 100, 5, .inl f))]) a x n bs (k + i) c2 (by omega) (by rw [hbs _ c2]; exact asc_ofN _ (hch _))) stX_tx hK hP hD (hE.kept hS.2.1) (hT.kept hS.2.1) (hT.kept hS.2.1).recv rfl rfl hl.1 (Nat.le_of_ble_eq_true rfl) rfl rfl ⟨(Nat.le_of_ble_eq_true rfl), (Nat.le_of_ble_eq_true rfl)⟩ ⟨(by show r + 1 + 0 ≤ 40; omega), (by show 5 * r + 5 + 0 ≤ 200; omega)⟩ dL_write_50) hS (fun _ h => h) rfl (fun locs hS => ?_)
      refine lv_goto (tgt := 58) S.1 S.2.1 dL_write_53 (by decide) ?_
      rw [hbs _ c2]
      exact wr_c S hK hE hA hT hbs hch h32 hn (by omega) hrr (fun hP hD hS hf hl => ih (i := i + 1) hP hD hS hf hl (by omega)) hP hD hS hf hl
set_option maxHeartbeats 4000000 in
set_option maxRecDepth 100000 in
theorem wr_o (S : CallFix pg mi co cL_write 7 s ar lw_all RL) (hK : va_K D vwCl (gTys D) s) (hE : EV D A s s.heap) (hA : ∀ q, s.heap.size ≤ q → A q) (hT : Tx A s s.heap a x n bs) (hbs : ∀ j, j < n → bs j = nI (ch j)) (hch : ∀ i, ch i < 128) (h32 : ∀ i, n ≤ i → ch i = 32) (hn : n ≤ 760) (hr : me.sig.returnType = none) (hlk : me.locks = false) (hN0 : N0 ≤ 550) (q : Nat) {r : Nat} (hP : va_P D vwCl u H) (hD : va_D A u) (hS : va_S A s.heap H locs) (hu : 234 ≤ u.length) (hs0 : Same w0 u 0 234) (hB : OB D α u v) (hR : RA N P B Q v) (hl : lv_has ls 7 [(3, .int (nI (20 * r))), (2, .int h0), (1, .ref a), (0, .ref (α 0))]) (ht : TPS v0 v (20 * r) ch) (hN : N ≤ N0 + r + 1) (hr2 : 20 * r < n + 20) (hq : r + q = 39) : W pg l en ({ frames := 8, cells := 40, slots := 200, locals := 200 } : Room) s mi ar below me co H locs (r) (5 * r) (MQ below (wrQ D A α w0 v0 N0 P B Q n ch) ar s 40 200 A) (F0 mi 11 ls []) := by
  induction q generalizing r N v u h0 H locs ls with
  | zero =>
    refine lv_iload_n S.1 S.2.1 dL_write_11 rfl (lv_at hl 0 rfl) ?_
    refine lv_aload_n S.1 S.2.1 dL_write_12 rfl (lv_at hl 2 rfl) ?_
    refine x_aftR (st1 := [.int (nI n), .int (nI (20 * r))]) (x_V (As := []) (rest := [.int (nI (20 * r))]) S mi_J0_length_8abf5 qw540 (x_J0_length_8abf5 l D A u a x n bs) stX_tx hK hP hD (hE.kept hS.2.1) (hT.kept hS.2.1) (hT.kept hS.2.1).recv rfl rfl hl.1 (Nat.le_of_ble_eq_true rfl) rfl rfl ⟨(Nat.le_of_ble_eq_true rfl), (Nat.le_of_ble_eq_true rfl)⟩ ⟨(by show r + 0 ≤ 40; omega), (by show 5 * r + 0 ≤ 200; omega)⟩ dL_write_13) hS (fun _ h => h) rfl (fun locs hS => ?_)
    refine lv_icmp_ge (tgt := 117) S.1 S.2.1 dL_write_16 (by decide) (fun _ => ?_) (fun z9 => absurd (nI_le (by omega) (by omega)) z9)
    exact wr_end S hK hE hA hT hbs hch h32 hn hr hlk hN0 hP hD hS hu hs0 hB hR ht hN (by omega) hr2 hl
  | succ q ih =>
    by_cases c1 : n ≤ 20 * r
    · refine lv_iload_n S.1 S.2.1 dL_write_11 rfl (lv_at hl 0 rfl) ?_
      refine lv_aload_n S.1 S.2.1 dL_write_12 rfl (lv_at hl 2 rfl) ?_
      refine x_aftR (st1 := [.int (nI n), .int (nI (20 * r))]) (x_V (As := []) (rest := [.int (nI (20 * r))]) S mi_J0_length_8abf5 qw540 (x_J0_length_8abf5 l D A u a x n bs) stX_tx hK hP hD (hE.kept hS.2.1) (hT.kept hS.2.1) (hT.kept hS.2.1).recv rfl rfl hl.1 (Nat.le_of_ble_eq_true rfl) rfl rfl ⟨(Nat.le_of_ble_eq_true rfl), (Nat.le_of_ble_eq_true rfl)⟩ ⟨(by show r + 0 ≤ 40; omega), (by show 5 * r + 0 ≤ 200; omega)⟩ dL_write_13) hS (fun _ h => h) rfl (fun locs hS => ?_)
      refine lv_icmp_ge (tgt := 117) S.1 S.2.1 dL_write_16 (by decide) (fun _ => ?_) (fun z9 => absurd (nI_le c1 (by omega)) z9)
      exact wr_end S hK hE hA hT hbs hch h32 hn hr hlk hN0 hP hD hS hu hs0 hB hR ht hN c1 hr2 hl
    · refine lv_iload_n S.1 S.2.1 dL_write_11 rfl (lv_at hl 0 rfl) ?_
      refine lv_aload_n S.1 S.2.1 dL_write_12 rfl (lv_at hl 2 rfl) ?_
      refine x_aftR (st1 := [.int (nI n), .int (nI (20 * r))]) (x_V (As := []) (rest := [.int (nI (20 * r))]) S mi_J0_length_8abf5 qw540 (x_J0_length_8abf5 l D A u a x n bs) stX_tx hK hP hD (hE.kept hS.2.1) (hT.kept hS.2.1) (hT.kept hS.2.1).recv rfl rfl hl.1 (Nat.le_of_ble_eq_true rfl) rfl rfl ⟨(Nat.le_of_ble_eq_true rfl), (Nat.le_of_ble_eq_true rfl)⟩ ⟨(by show r + 0 ≤ 40; omega), (by show 5 * r + 0 ≤ 200; omega)⟩ dL_write_13) hS (fun _ h => h) rfl (fun locs hS => ?_)
      refine lv_icmp_ge (tgt := 117) S.1 S.2.1 dL_write_16 (by decide) (fun z9 => absurd z9 (fun z9 => c1 ((nI_leI (by omega) (by omega)).mp z9))) (fun _ => ?_)
      refine lv_iconst (v := 5) S.1 S.2.1 dL_write_19 (by decide) ?_
      refine g_newa (ty := .int) (a0 := (5, .inl z0)) (cT := D.1 100) S hK hP hD hS (hA _ hS.1) rfl (fun C q => by cases q) qw80 0 rfl (fun _ => rfl) (by decide) (by decide) (Nat.le_of_ble_eq_true rfl) (by show r + 1 ≤ 40; omega) (by show 5 * r + 5 ≤ 200; omega) dL_write_20 (fun H1 hz1 hP hD hS => ?_)
      clear hz1
      generalize H.size = b at hP hD ⊢
      refine lv_astore (lv' := [(4, .ref b), (3, .int (nI (20 * r))), (2, .int h0), (1, .ref a), (0, .ref (α 0))]) S.1 S.2.1 dL_write_22 hl (by decide) rfl (fun ls hl => ?_)
      refine lv_iconst (v := 0) S.1 S.2.1 dL_write_24 (by decide) ?_
      refine lv_istore (lv' := [(5, .int 0), (4, .ref b), (3, .int (nI (20 * r))), (2, .int h0), (1, .ref a), (0, .ref (α 0))]) S.1 S.2.1 dL_write_25 hl (by decide) rfl (fun ls hl => ?_)
      refine wr_i S hK hE hA hT hbs hch h32 hn (k := 20 * r) (by omega) (by omega) (fun {f} {H} {locs} {ls} hP hD hS hf hl => ?_) 20 (i := 0) hP hD hS (fun j hj => by rw [show min (0 - 4 * j) 4 = 0 by omega]; rfl) (lv_sub hl [0, 1, 2, 3, 4, 5] rfl) rfl
      have ha : (u ++ [(b, .inl (D.1 100, 5, .inl f))])[u.length]? = some (b, .inl (D.1 100, 5, .inl f)) := by rw [List.getElem?_append_right (Nat.le_refl _), Nat.sub_self]; rfl
      refine lv_aload_n S.1 S.2.1 dL_write_86 rfl (lv_at hl 4 rfl) ?_
      refine lv_aload S.1 S.2.1 dL_write_87 (lv_at hl 0 rfl) ?_
      refine lv_iconst (v := 0) S.1 S.2.1 dL_write_89 (by decide) ?_
      refine g_iald (q0 := u.length) S hK hP ha (vin_d (by decide)) dL_write_90 ?_
      rw [show f (Int32.toNatClampNeg 0) = nI (pw ch (20 * r + 4 * 0) 4) from hf 0 (by decide)]
      refine lv_aload S.1 S.2.1 dL_write_91 (lv_at hl 0 rfl) ?_
      refine lv_iconst (v := 1) S.1 S.2.1 dL_write_93 (by decide) ?_
      refine g_iald (q0 := u.length) S hK hP ha (vin_d (by decide)) dL_write_94 ?_
      rw [show f (Int32.toNatClampNeg 1) = nI (pw ch (20 * r + 4 * 1) 4) from hf 1 (by decide)]
      refine lv_aload S.1 S.2.1 dL_write_95 (lv_at hl 0 rfl) ?_
      refine lv_iconst (v := 2) S.1 S.2.1 dL_write_97 (by decide) ?_
      refine g_iald (q0 := u.length) S hK hP ha (vin_d (by decide)) dL_write_98 ?_
      rw [show f (Int32.toNatClampNeg 2) = nI (pw ch (20 * r + 4 * 2) 4) from hf 2 (by decide)]
      refine lv_aload S.1 S.2.1 dL_write_99 (lv_at hl 0 rfl) ?_
      refine lv_iconst (v := 3) S.1 S.2.1 dL_write_101 (by decide) ?_
      refine g_iald (q0 := u.length) S hK hP ha (vin_d (by decide)) dL_write_102 ?_
      rw [show f (Int32.toNatClampNeg 3) = nI (pw ch (20 * r + 4 * 3) 4) from hf 3 (by decide)]
      refine lv_aload S.1 S.2.1 dL_write_103 (lv_at hl 0 rfl) ?_
      refine lv_iconst (v := 4) S.1 S.2.1 dL_write_105 (by decide) ?_
      refine g_iald (q0 := u.length) S hK hP ha (vin_d (by decide)) dL_write_106 ?_
      rw [show f (Int32.toNatClampNeg 4) = nI (pw ch (20 * r + 4 * 4) 4) from hf 4 (by decide)]
      refine x_aftQ (st1 := [.int (a_append v (nI (pw ch (20 * r + 4 * 0) 4)) (nI (pw ch (20 * r + 4 * 1) 4)) (nI (pw ch (20 * r + 4 * 2) 4)) (nI (pw ch (20 * r + 4 * 3) 4)) (nI (pw ch (20 * r + 4 * 4) 4)))]) (x_V0 (As := [.int (nI (pw ch (20 * r + 4 * 0) 4)), .int (nI (pw ch (20 * r + 4 * 1) 4)), .int (nI (pw ch (20 * r + 4 * 2) 4)), .int (nI (pw ch (20 * r + 4 * 3) 4)), .int (nI (pw ch (20 * r + 4 * 4) 4))]) (rest := []) S mi_X11_append qw588 (k_append l D A (u ++ [(b, .inl (D.1 100, 5, .inl f))]) α hR (by omega) (nI (pw ch (20 * r + 4 * 0) 4)) (nI (pw ch (20 * r + 4 * 1) 4)) (nI (pw ch (20 * r + 4 * 2) 4)) (nI (pw ch (20 * r + 4 * 3) 4)) (nI (pw ch (20 * r + 4 * 4) 4)) (hB.app hu)) hK hP hD (hE.kept hS.2.1) ((hB.app hu).recv hK hP) rfl rfl hl.1 (Nat.le_of_ble_eq_true rfl) rfl rfl ⟨(Nat.le_of_ble_eq_true rfl), (Nat.le_of_ble_eq_true rfl)⟩ ⟨(by show r + 1 + 0 ≤ 40; omega), (by show 5 * r + 5 + 0 ≤ 200; omega)⟩ dL_write_107) hS (fun _ h => h) rfl (fun w1 H locs hq hP hD hz hk2 hS => ?_)
      obtain ⟨hB1, hsm⟩ := hq
      clear hz hk2
      have hR1 := q_append hR (by omega) (nI (pw ch (20 * r + 4 * 0) 4)) (nI (pw ch (20 * r + 4 * 1) 4)) (nI (pw ch (20 * r + 4 * 2) 4)) (nI (pw ch (20 * r + 4 * 3) 4)) (nI (pw ch (20 * r + 4 * 4) 4))
      have ht1 : TPS v0 (n_append v (nI (pw ch (20 * r + 4 * 0) 4)) (nI (pw ch (20 * r + 4 * 1) 4)) (nI (pw ch (20 * r + 4 * 2) 4)) (nI (pw ch (20 * r + 4 * 3) 4)) (nI (pw ch (20 * r + 4 * 4) 4))) (20 * r + 20) ch := tps_app ht (by omega) hch
      obtain ⟨u1, rfl, hsu⟩ := w_same hsm hu
      have hu1 : 234 ≤ u1.length := by rw [hsu.1]; exact hu
      have hP := wp_left hP
      have hD := wd_left hD
      have hB1 := hB1.left hu1
      generalize n_append v (nI (pw ch (20 * r + 4 * 0) 4)) (nI (pw ch (20 * r + 4 * 1) 4)) (nI (pw ch (20 * r + 4 * 2) 4)) (nI (pw ch (20 * r + 4 * 3) 4)) (nI (pw ch (20 * r + 4 * 4) 4)) = v1 at hR1 ht1 hB1
      generalize a_append v (nI (pw ch (20 * r + 4 * 0) 4)) (nI (pw ch (20 * r + 4 * 1) 4)) (nI (pw ch (20 * r + 4 * 2) 4)) (nI (pw ch (20 * r + 4 * 3) 4)) (nI (pw ch (20 * r + 4 * 4) 4)) = y
      refine lv_istore_n (lv' := [(2, .int y), (4, .ref b), (3, .int (nI (20 * r))), (1, .ref a), (0, .ref (α 0))]) S.1 S.2.1 dL_write_110 rfl hl (by decide) rfl (fun ls hl => ?_)
      refine lv_iinc (v := (nI (20 * (r + 1)))) (lv' := [(3, .int (nI (20 * (r + 1)))), (2, .int y), (4, .ref b), (1, .ref a), (0, .ref (α 0))]) S.1 S.2.1 dL_write_111 hl (k := 2) rfl (nI_add (20 * r) 20) (by decide) rfl (fun ls hl => ?_)
      refine lv_goto (tgt := 11) S.1 S.2.1 dL_write_114 (by decide) ?_
      exact ih (r := r + 1) hP hD hS hu1 (hs0.trans hsu) hB1 hR1 (lv_sub hl [0, 1, 3, 4] rfl) ht1 (by omega) (by omega) (by omega)
end WRI
set_option maxHeartbeats 4000000 in
set_option maxRecDepth 100000 in
theorem l_write (l : Launch) (D : va_G) (A : Nat → Prop) (w : va_W) (α : Nat → Nat) {N0 P B Q : Nat} {v : VT} (hR : RA N0 P B Q v) (hN0 : N0 ≤ 550) (hB : OB D α w v) (hw : 234 ≤ w.length) {nH a x n : Nat} {bs : Nat → Int32} {ch : Nat → Nat} (hA : ∀ q, nH ≤ q → A q) (hbs : ∀ j, j < n → bs j = nI (ch j)) (hch : ∀ i, ch i < 128) (h32 : ∀ i, n ≤ i → ch i = 32) (hn : n ≤ 760) : Met l yL_write (ws_ yL_write cL_write 7 (Option.none : Option Jvm.ClassFile.FieldType)) ({ frames := 8, cells := 40, slots := 200, locals := 200 } : Room) (gPx D A [.ref (α 0), .ref a] w (fun U H => nH ≤ H.size ∧ Tx A U H a x n bs)) (wrQ D A α w v N0 P B Q n ch) 40 200 A := by
  refine g_metX [(0, .ref (α 0)), (1, .ref a)] (by decide +kernel) (Nat.le_of_ble_eq_true rfl) rfl (fun pg en s mi ar below me co ls S hK hP hD hE hS hx hr hlk hnm hl => ?_)
  have hE := hE
  have hT := hx.2
  have hA : ∀ q, s.heap.size ≤ q → A q := fun q hq => hA q (Nat.le_trans hx.1 hq)
  refine lv_aload_n S.1 S.2.1 dL_write_0 rfl (lv_at hl 0 rfl) ?_
  refine lv_aload_n S.1 S.2.1 dL_write_1 rfl (lv_at hl 0 rfl) ?_
  refine x_aftR (st1 := [.int (a_tapeLength v), .ref (α 0)]) (x_V0 (As := []) (rest := [.ref (α 0)]) S mi_X11_tapeLength qw524 (k_tapeLength l D A w α hB) hK hP hD (hE.kept hS.2.1) (hB.recv hK hP) rfl rfl hl.1 (Nat.le_of_ble_eq_true rfl) rfl rfl ⟨(Nat.le_of_ble_eq_true rfl), (Nat.le_of_ble_eq_true rfl)⟩ ⟨(Nat.le_of_ble_eq_true rfl), (Nat.le_of_ble_eq_true rfl)⟩ dL_write_2) hS (fun _ h => h) rfl (fun locs hS => ?_)
  refine x_aftQ (st1 := [.int (a_truncate v (a_tapeLength v))]) (x_V0 (As := [.int (a_tapeLength v)]) (rest := []) S mi_X11_truncate qw532 (k_truncate l D A w α hR (by omega) (a_tapeLength v) hB) hK hP hD (hE.kept hS.2.1) (hB.recv hK hP) rfl rfl hl.1 (Nat.le_of_ble_eq_true rfl) rfl rfl ⟨(Nat.le_of_ble_eq_true rfl), (Nat.le_of_ble_eq_true rfl)⟩ ⟨(Nat.le_of_ble_eq_true rfl), (Nat.le_of_ble_eq_true rfl)⟩ dL_write_5) hS (fun _ h => h) rfl (fun w1 H locs hq hP hD hz hk2 hS => ?_)
  obtain ⟨hB1, hsm⟩ := hq
  clear hz hk2
  have hR1 := q_truncate hR (by omega) (a_tapeLength v)
  have ht := tps_0 hR ch
  have hw1 : 234 ≤ w1.length := by rw [hsm.1]; exact hw
  generalize n_truncate v (a_tapeLength v) = v1 at hR1 ht hB1
  generalize a_truncate v (a_tapeLength v) = y
  refine lv_istore_n (lv' := [(2, .int y), (0, .ref (α 0)), (1, .ref a)]) S.1 S.2.1 dL_write_8 rfl hl (by decide) rfl (fun ls hl => ?_)
  refine lv_iconst (v := 0) S.1 S.2.1 dL_write_9 (by decide) ?_
  refine lv_istore_n (lv' := [(3, .int 0), (2, .int y), (0, .ref (α 0)), (1, .ref a)]) S.1 S.2.1 dL_write_10 rfl hl (by decide) rfl (fun ls hl => ?_)
  exact wr_o S hK hE hA hT hbs hch h32 hn hr hlk hN0 39 (r := 0) hP hD hS hw1 hsm hB1 hR1 (lv_sub hl [0, 1, 3, 2] rfl) ht (by omega) (by omega) rfl
