noncomputable def S_X1_addNumber_12 (cap : Nat) (f : Nat → Int32) (len : Int32) : (Nat → Int32) × Int32 := (f_X1_add cap f len 45)
noncomputable def J_X1_addNumber_6 (cap : Nat) (f : Nat → Int32) (len : Int32) (x : Int32) : Int64 × (Nat → Int32) × Int32 := (if 0 ≤ x.toInt64 then (x.toInt64, f, len) else ((-x.toInt64), (S_X1_addNumber_12 cap f len).1, (S_X1_addNumber_12 cap f len).2))
noncomputable def T_X1_addNumber_24 (cap : Nat) (f : Nat → Int32) (len : Int32) (x : Int32) (sw24 : Int32 × Int64) : Sum (Int32 × Int64) (Int32 × Int64) := (if 11 ≤ sw24.1 then (.inr (sw24.1, sw24.2)) else (if (J_X1_addNumber_6 cap f len x).1 < (sw24.2 * 10) then (.inr (sw24.1, sw24.2)) else (.inl ((sw24.1 + 1), (sw24.2 * 10)))))
noncomputable def X_X1_addNumber_24 (cap : Nat) (f : Nat → Int32) (len : Int32) (x : Int32) : Int32 × Int64 := whl_ ((T_X1_addNumber_24 cap f len x)) 11 (1, 1)
noncomputable def S_X1_addNumber_77 (cap : Nat) (f : Nat → Int32) (len : Int32) (x : Int32) (sw56 : Int64 × (Nat → Int32) × Int32) : (Nat → Int32) × Int32 := (f_X1_add cap sw56.2.1 sw56.2.2 ((48 + (((J_X1_addNumber_6 cap f len x).1 / sw56.1) - ((J_X1_addNumber_6 cap f len x).1 / sw56.1) / 10 * 10)).toInt32))
noncomputable def T_X1_addNumber_56 (cap : Nat) (f : Nat → Int32) (len : Int32) (x : Int32) (sw56 : Int64 × (Nat → Int32) × Int32) : Sum (Int64 × (Nat → Int32) × Int32) (Int64 × (Nat → Int32) × Int32) := (if sw56.1 ≤ 0 then (.inr (sw56.1, sw56.2.1, sw56.2.2)) else (.inl ((sw56.1 / 10), (S_X1_addNumber_77 cap f len x sw56).1, (S_X1_addNumber_77 cap f len x sw56).2)))
noncomputable def X_X1_addNumber_56 (cap : Nat) (f : Nat → Int32) (len : Int32) (x : Int32) : Int64 × (Nat → Int32) × Int32 := whl_ ((T_X1_addNumber_56 cap f len x)) 12 ((X_X1_addNumber_24 cap f len x).2, (J_X1_addNumber_6 cap f len x).2.1, (J_X1_addNumber_6 cap f len x).2.2)
noncomputable def f_X1_addNumber (cap : Nat) (f : Nat → Int32) (len : Int32) (x : Int32) : (Nat → Int32) × Int32 := ((X_X1_addNumber_56 cap f len x).2.1, (X_X1_addNumber_56 cap f len x).2.2)
set_option maxHeartbeats 4000000 in
set_option maxRecDepth 100000 in
theorem c_X1_addNumber (l : Launch) (D : va_G) (A : Nat → Prop) (w : va_W) (α : Nat → Nat) (k : Nat) (cap : Nat) (f : Nat → Int32) (len : Int32) (x : Int32) (hB0 : Blk w k (cBytes D α k cap f len)) (hy0 : cap < 2147483648) : Met l yX1_addNumber (ws_ yX1_addNumber cX1_addNumber 7 none) ({ frames := 1, cells := 0, slots := 0, locals := 21 }) (gPre D A [.ref (α (k)), .int x] w) (gQ D A none (fun w1 => Blk w1 k (cBytes D α k cap ((f_X1_addNumber cap f len x).1) ((f_X1_addNumber cap f len x).2)) ∧ Same w w1 k 2)) 0 0 A := by
  refine g_met [(0, .ref (α (k))), (1, .int x)] (plainFor_of_name (by decide)) (Nat.le_of_ble_eq_true rfl) rfl (fun pg en s mi ar below me co ls S hK hP hD hE hS hr hlk hnm hl => ?_)
  have hF : Same w w k 2 := Same.rf
  refine lv_iload_n S.1 S.2.1 dX1_addNumber_0 rfl (lv_at hl 1 rfl) ?_
  refine lv_i2l (v := x.toInt64) S.1 S.2.1 dX1_addNumber_1 rfl ?_
  refine lv_lstore_n (lv' := [(2, .long x.toInt64), (0, .ref (α (k))), (1, .int x)]) S.1 S.2.1 dX1_addNumber_2 rfl hl (by decide) rfl (fun ls hl => ?_)
  refine lv_lload_n S.1 S.2.1 dX1_addNumber_3 rfl (lv_at hl 0 rfl) ?_
  refine lv_lconst (v := 0) S.1 S.2.1 dX1_addNumber_4 (by decide) ?_
  refine W.lcmp S.1 S.2.1 dX1_addNumber_5 ?_
  have jn6 : ∀ (wl : va_W) (H : Heap) (locs : List Loc) (ls : Array Slot), va_P D vwCl wl H → va_D A wl → va_S A s.heap H locs → Same w wl k 2 → Blk wl k (cBytes D α k cap ((J_X1_addNumber_6 cap f len x).2.1) ((J_X1_addNumber_6 cap f len x).2.2)) → lv_has ls 7 [(2, .long ((J_X1_addNumber_6 cap f len x).1)), (0, .ref (α (k))), (1, .int x)] → W pg l en ({ frames := 1, cells := 0, slots := 0, locals := 21 } : Room) s mi ar below me co H locs 0 0 (MQ below (gQ D A none (fun w1 => Blk w1 k (cBytes D α k cap ((f_X1_addNumber cap f len x).1) ((f_X1_addNumber cap f len x).2)) ∧ Same w w1 k 2)) ar s 0 0 A) (F0 mi 18 ls []) := by
    intro wl H locs ls hP hD hS hF hB0 hl
    refine lv_lconst (v := 1) S.1 S.2.1 dX1_addNumber_18 (by decide) ?_
    refine lv_lstore (lv' := [(4, .long 1), (2, .long ((J_X1_addNumber_6 cap f len x).1)), (0, .ref (α (k))), (1, .int x)]) S.1 S.2.1 dX1_addNumber_19 hl (by decide) rfl (fun ls hl => ?_)
    refine lv_iconst (v := 1) S.1 S.2.1 dX1_addNumber_21 (by decide) ?_
    refine lv_istore (lv' := [(6, .int 1), (4, .long 1), (2, .long ((J_X1_addNumber_6 cap f len x).1)), (0, .ref (α (k))), (1, .int x)]) S.1 S.2.1 dX1_addNumber_22 hl (by decide) rfl (fun ls hl => ?_)
    have jw24 : (tk_ 12 ((X_X1_addNumber_24 cap f len x).2)) → ∀ (locs : List Loc) (ls : Array Slot), va_S A s.heap H locs → lv_has ls 7 [(6, .int ((X_X1_addNumber_24 cap f len x).1)), (4, .long ((X_X1_addNumber_24 cap f len x).2)), (2, .long ((J_X1_addNumber_6 cap f len x).1)), (0, .ref (α (k))), (1, .int x)] → W pg l en ({ frames := 1, cells := 0, slots := 0, locals := 21 } : Room) s mi ar below me co H locs 0 0 (MQ below (gQ D A none (fun w1 => Blk w1 k (cBytes D α k cap ((f_X1_addNumber cap f len x).1) ((f_X1_addNumber cap f len x).2)) ∧ Same w w1 k 2)) ar s 0 0 A) (F0 mi 56 ls []) := by
      intro hpo locs ls hS hl
      have jw56 : ∀ (wl : va_W) (H : Heap) (locs : List Loc) (ls : Array Slot), va_P D vwCl wl H → va_D A wl → va_S A s.heap H locs → Same w wl k 2 → Blk wl k (cBytes D α k cap ((X_X1_addNumber_56 cap f len x).2.1) ((X_X1_addNumber_56 cap f len x).2.2)) → lv_has ls 7 [(6, .int ((X_X1_addNumber_24 cap f len x).1)), (4, .long ((X_X1_addNumber_56 cap f len x).1)), (2, .long ((J_X1_addNumber_6 cap f len x).1)), (0, .ref (α (k))), (1, .int x)] → W pg l en ({ frames := 1, cells := 0, slots := 0, locals := 21 } : Room) s mi ar below me co H locs 0 0 (MQ below (gQ D A none (fun w1 => Blk w1 k (cBytes D α k cap ((f_X1_addNumber cap f len x).1) ((f_X1_addNumber cap f len x).2)) ∧ Same w w1 k 2)) ar s 0 0 A) (F0 mi 91 ls []) := by
        intro wl H locs ls hP hD hS hF hB0 hl
        have hf : (f_X1_addNumber cap f len x) = ((X_X1_addNumber_56 cap f len x).2.1, (X_X1_addNumber_56 cap f len x).2.2) := rfl
        exact g_vret S hr hlk hP hD hS (rfl) (⟨by rw [hf]; dsimp only; exact hB0, hF⟩) dX1_addNumber_91
      have lw56 : ∀ (n : Nat) (sw56 : Int64 × (Nat → Int32) × Int32), (tk_ n sw56.1) → (X_X1_addNumber_56 cap f len x) = whl_ (T_X1_addNumber_56 cap f len x) n sw56 → ∀ (wl : va_W) (H : Heap) (locs : List Loc) (ls : Array Slot), va_P D vwCl wl H → va_D A wl → va_S A s.heap H locs → Same w wl k 2 → Blk wl k (cBytes D α k cap sw56.2.1 sw56.2.2) → lv_has ls 7 [(6, .int ((X_X1_addNumber_24 cap f len x).1)), (4, .long sw56.1), (2, .long ((J_X1_addNumber_6 cap f len x).1)), (0, .ref (α (k))), (1, .int x)] → W pg l en ({ frames := 1, cells := 0, slots := 0, locals := 21 } : Room) s mi ar below me co H locs 0 0 (MQ below (gQ D A none (fun w1 => Blk w1 k (cBytes D α k cap ((f_X1_addNumber cap f len x).1) ((f_X1_addNumber cap f len x).2)) ∧ Same w w1 k 2)) ar s 0 0 A) (F0 mi 56 ls []) := by
        intro n
        induction n with
        | zero => intro sw56 hi; exact absurd hi (tk_0)
        | succ n ih =>
          intro sw56 hi hx wl H locs ls hP hD hS hF hB0 hl
          refine lv_lload S.1 S.2.1 dX1_addNumber_56 (lv_at hl 1 rfl) ?_
          refine lv_lconst (v := 0) S.1 S.2.1 dX1_addNumber_58 (by decide) ?_
          refine W.lcmp S.1 S.2.1 dX1_addNumber_59 ?_
          refine lv_if_le (tgt := 91) S.1 S.2.1 dX1_addNumber_60 (by decide) (fun c2 => ?_) (fun c2 => ?_)
          · have c2 : sw56.1 ≤ 0 := (lg_cmp_le _ _).mp c2
            have hT : (T_X1_addNumber_56 cap f len x) sw56 = .inr (sw56.1, sw56.2.1, sw56.2.2) := if_pos c2
            have hX := hx.trans (whl_o hT)
            have qj := jw56
            rw [hX] at qj
            (try dsimp only at qj)
            exact qj _ _ _ _ hP hD hS hF hB0 (lv_sub hl [0, 1, 2, 3, 4] rfl)
          · have c2 : ¬ (sw56.1 ≤ 0) := fun h => c2 ((lg_cmp_le _ _).mpr h)
            refine lv_aload_n S.1 S.2.1 dX1_addNumber_63 rfl (lv_at hl 3 rfl) ?_
            refine lv_ldc2 (v := 48) S.1 S.2.1 S.2.2.2.1 (S.2.2.2.2 _ qw1452) dX1_addNumber_64 ?_
            refine lv_lload_n S.1 S.2.1 dX1_addNumber_67 rfl (lv_at hl 2 rfl) ?_
            refine lv_lload S.1 S.2.1 dX1_addNumber_68 (lv_at hl 1 rfl) ?_
            refine lv_ldiv S.1 S.2.1 dX1_addNumber_70 (lpos_ne c2) ?_
            refine lv_ldc2 (v := 10) S.1 S.2.1 S.2.2.2.1 (S.2.2.2.2 _ qw1451) dX1_addNumber_71 ?_
            refine lv_lrem S.1 S.2.1 dX1_addNumber_74 (by decide) ?_
            refine lv_ladd S.1 S.2.1 dX1_addNumber_75 ?_
            refine lv_l2i (v := (48 + (((J_X1_addNumber_6 cap f len x).1 / sw56.1) - ((J_X1_addNumber_6 cap f len x).1 / sw56.1) / 10 * 10)).toInt32) S.1 S.2.1 dX1_addNumber_76 rfl ?_
            have hNm : (f_X1_add cap sw56.2.1 sw56.2.2 ((48 + (((J_X1_addNumber_6 cap f len x).1 / sw56.1) - ((J_X1_addNumber_6 cap f len x).1 / sw56.1) / 10 * 10)).toInt32)) = (S_X1_addNumber_77 cap f len x sw56) := rfl
            have hCon := (c_X1_add l D A wl α (k) cap sw56.2.1 sw56.2.2 ((48 + (((J_X1_addNumber_6 cap f len x).1 / sw56.1) - ((J_X1_addNumber_6 cap f len x).1 / sw56.1) / 10 * 10)).toInt32) hB0 (hy0))
            rw [hNm] at hCon
            refine g_aft0 (st1 := []) (g_V (As := [.int ((48 + (((J_X1_addNumber_6 cap f len x).1 / sw56.1) - ((J_X1_addNumber_6 cap f len x).1 / sw56.1) / 10 * 10)).toInt32)]) (rest := []) S mi_X1_add qw596 hCon hK hP hD hE hS (hB0 0 _ rfl) rfl rfl rfl hl.1 (Nat.le_of_ble_eq_true rfl) rfl rfl ⟨(Nat.le_of_ble_eq_true rfl), (Nat.le_of_ble_eq_true rfl)⟩ ⟨(Nat.le_of_ble_eq_true rfl), (Nat.le_of_ble_eq_true rfl)⟩ dX1_addNumber_77) hS rfl (fun w2 H locs hQ hP hD hS => ?_)
            have hF := hF.trans hQ.2
            have hB0 : Blk w2 k (cBytes D α k cap ((S_X1_addNumber_77 cap f len x sw56).1) ((S_X1_addNumber_77 cap f len x sw56).2)) := hQ.1
            refine lv_lload S.1 S.2.1 dX1_addNumber_80 (lv_at hl 1 rfl) ?_
            refine lv_ldc2 (v := 10) S.1 S.2.1 S.2.2.2.1 (S.2.2.2.2 _ qw1451) dX1_addNumber_82 ?_
            refine lv_ldiv S.1 S.2.1 dX1_addNumber_85 (by decide) ?_
            refine lv_lstore (lv' := [(4, .long (sw56.1 / 10)), (6, .int ((X_X1_addNumber_24 cap f len x).1)), (2, .long ((J_X1_addNumber_6 cap f len x).1)), (0, .ref (α (k))), (1, .int x)]) S.1 S.2.1 dX1_addNumber_86 hl (by decide) rfl (fun ls hl => ?_)
            refine lv_goto (tgt := 56) S.1 S.2.1 dX1_addNumber_88 (by decide) ?_
            have hT : (T_X1_addNumber_56 cap f len x) sw56 = .inl ((sw56.1 / 10), (S_X1_addNumber_77 cap f len x sw56).1, (S_X1_addNumber_77 cap f len x sw56).2) := if_neg c2
            have qi := ih ((sw56.1 / 10), (S_X1_addNumber_77 cap f len x sw56).1, (S_X1_addNumber_77 cap f len x sw56).2)
            (try dsimp only at qi)
            exact qi (tk_s hi c2) (hx.trans (whl_i hT)) _ _ _ _ hP hD hS hF hB0 (lv_sub hl [1, 0, 2, 3, 4] rfl)
      have qs := lw56 12 ((X_X1_addNumber_24 cap f len x).2, (J_X1_addNumber_6 cap f len x).2.1, (J_X1_addNumber_6 cap f len x).2.2)
      (try dsimp only at qs)
      exact qs (hpo) rfl _ _ _ _ hP hD hS hF hB0 (lv_sub hl [0, 1, 2, 3, 4] rfl)
    have lw24 : ∀ (n : Nat) (sw24 : Int32 × Int64), (tl_ n sw24.2 sw24.1) → (X_X1_addNumber_24 cap f len x) = whl_ (T_X1_addNumber_24 cap f len x) n sw24 → ∀ (locs : List Loc) (ls : Array Slot), va_S A s.heap H locs → lv_has ls 7 [(6, .int sw24.1), (4, .long sw24.2), (2, .long ((J_X1_addNumber_6 cap f len x).1)), (0, .ref (α (k))), (1, .int x)] → W pg l en ({ frames := 1, cells := 0, slots := 0, locals := 21 } : Room) s mi ar below me co H locs 0 0 (MQ below (gQ D A none (fun w1 => Blk w1 k (cBytes D α k cap ((f_X1_addNumber cap f len x).1) ((f_X1_addNumber cap f len x).2)) ∧ Same w w1 k 2)) ar s 0 0 A) (F0 mi 24 ls []) := by
      intro n
      induction n with
      | zero => intro sw24 hi; exact absurd hi (tl_0)
      | succ n ih =>
        intro sw24 hi hx locs ls hS hl
        refine lv_iload S.1 S.2.1 dX1_addNumber_24 (lv_at hl 0 rfl) ?_
        refine lv_bipush (v := 11) S.1 S.2.1 dX1_addNumber_26 (by decide) ?_
        refine lv_icmp_ge (tgt := 56) S.1 S.2.1 dX1_addNumber_28 (by decide) (fun (c3 : 11 ≤ sw24.1) => ?_) (fun (c3 : ¬ 11 ≤ sw24.1) => ?_)
        · skip
          have hT : (T_X1_addNumber_24 cap f len x) sw24 = .inr (sw24.1, sw24.2) := if_pos c3
          have hX := hx.trans (whl_o hT)
          have qj := jw24
          rw [hX] at qj
          (try dsimp only at qj)
          exact qj (tk_of hi) _ _ hS (lv_sub hl [0, 1, 2, 3, 4] rfl)
        · refine lv_lload S.1 S.2.1 dX1_addNumber_31 (lv_at hl 1 rfl) ?_
          refine lv_ldc2 (v := 10) S.1 S.2.1 S.2.2.2.1 (S.2.2.2.2 _ qw1451) dX1_addNumber_33 ?_
          refine lv_lmul S.1 S.2.1 dX1_addNumber_36 ?_
          refine lv_lload_n S.1 S.2.1 dX1_addNumber_37 rfl (lv_at hl 2 rfl) ?_
          refine W.lcmp S.1 S.2.1 dX1_addNumber_38 ?_
          refine lv_if_gt (tgt := 56) S.1 S.2.1 dX1_addNumber_39 (by decide) (fun c4 => ?_) (fun c4 => ?_)
          · have c4 : (J_X1_addNumber_6 cap f len x).1 < (sw24.2 * 10) := lgc_gt.mp c4
            have hT : (T_X1_addNumber_24 cap f len x) sw24 = .inr (sw24.1, sw24.2) := (if_neg c3).trans (if_pos c4)
            have hX := hx.trans (whl_o hT)
            have qj := jw24
            rw [hX] at qj
            (try dsimp only at qj)
            exact qj (tk_of hi) _ _ hS (lv_sub hl [0, 1, 2, 3, 4] rfl)
          · have c4 : ¬ ((J_X1_addNumber_6 cap f len x).1 < (sw24.2 * 10)) := fun h => c4 (lgc_gt.mpr h)
            refine lv_lload S.1 S.2.1 dX1_addNumber_42 (lv_at hl 1 rfl) ?_
            refine lv_ldc2 (v := 10) S.1 S.2.1 S.2.2.2.1 (S.2.2.2.2 _ qw1451) dX1_addNumber_44 ?_
            refine lv_lmul S.1 S.2.1 dX1_addNumber_47 ?_
            refine lv_lstore (lv' := [(4, .long (sw24.2 * 10)), (6, .int sw24.1), (2, .long ((J_X1_addNumber_6 cap f len x).1)), (0, .ref (α (k))), (1, .int x)]) S.1 S.2.1 dX1_addNumber_48 hl (by decide) rfl (fun ls hl => ?_)
            refine lv_iinc (v := (sw24.1 + 1)) (lv' := [(6, .int (sw24.1 + 1)), (4, .long (sw24.2 * 10)), (2, .long ((J_X1_addNumber_6 cap f len x).1)), (0, .ref (α (k))), (1, .int x)]) S.1 S.2.1 dX1_addNumber_50 hl (k := 1) rfl (rfl) (by decide) rfl (fun ls hl => ?_)
            refine lv_goto (tgt := 24) S.1 S.2.1 dX1_addNumber_53 (by decide) ?_
            have hT : (T_X1_addNumber_24 cap f len x) sw24 = .inl ((sw24.1 + 1), (sw24.2 * 10)) := (if_neg c3).trans (if_neg c4)
            have qi := ih ((sw24.1 + 1), (sw24.2 * 10))
            (try dsimp only at qi)
            exact qi (tl_s hi c3) (hx.trans (whl_i hT)) _ _ hS (lv_sub hl [0, 1, 2, 3, 4] rfl)
    have qs := lw24 11 (1, 1)
    (try dsimp only at qs)
    exact qs (tl_1) rfl _ _ hS (lv_sub hl [0, 1, 2, 3, 4] rfl)
  refine lv_if_ge (tgt := 18) S.1 S.2.1 dX1_addNumber_6 (by decide) (fun c1 => ?_) (fun c1 => ?_)
  · have c1 : 0 ≤ x.toInt64 := (lg_cmp_ge _ _).mp c1
    have hJ : (J_X1_addNumber_6 cap f len x) = (x.toInt64, f, len) := if_pos c1
    have qj := jn6
    rw [hJ] at qj
    (try dsimp only at qj)
    exact qj _ _ _ _ hP hD hS hF hB0 (lv_sub hl [0, 1, 2] rfl)
  · have c1 : ¬ (0 ≤ x.toInt64) := fun h => c1 ((lg_cmp_ge _ _).mpr h)
    refine lv_aload_n S.1 S.2.1 dX1_addNumber_9 rfl (lv_at hl 1 rfl) ?_
    refine lv_bipush (v := 45) S.1 S.2.1 dX1_addNumber_10 (by decide) ?_
    have hNm : (f_X1_add cap f len 45) = (S_X1_addNumber_12 cap f len) := rfl
    have hCon := (c_X1_add l D A w α (k) cap f len 45 hB0 (hy0))
    rw [hNm] at hCon
    refine g_aft0 (st1 := []) (g_V (As := [.int 45]) (rest := []) S mi_X1_add qw596 hCon hK hP hD hE hS (hB0 0 _ rfl) rfl rfl rfl hl.1 (Nat.le_of_ble_eq_true rfl) rfl rfl ⟨(Nat.le_of_ble_eq_true rfl), (Nat.le_of_ble_eq_true rfl)⟩ ⟨(Nat.le_of_ble_eq_true rfl), (Nat.le_of_ble_eq_true rfl)⟩ dX1_addNumber_12) hS rfl (fun w1 H locs hQ hP hD hS => ?_)
    have hF := hF.trans hQ.2
    have hB0 : Blk w1 k (cBytes D α k cap ((S_X1_addNumber_12 cap f len).1) ((S_X1_addNumber_12 cap f len).2)) := hQ.1
    refine lv_lload_n S.1 S.2.1 dX1_addNumber_15 rfl (lv_at hl 0 rfl) ?_
    refine lv_lneg S.1 S.2.1 dX1_addNumber_16 ?_
    refine lv_lstore_n (lv' := [(2, .long (-x.toInt64)), (0, .ref (α (k))), (1, .int x)]) S.1 S.2.1 dX1_addNumber_17 rfl hl (by decide) rfl (fun ls hl => ?_)
    have hJ : (J_X1_addNumber_6 cap f len x) = ((-x.toInt64), (S_X1_addNumber_12 cap f len).1, (S_X1_addNumber_12 cap f len).2) := if_neg c1
    have qj := jn6
    rw [hJ] at qj
    (try dsimp only at qj)
    exact qj _ _ _ _ hP hD hS hF hB0 (lv_sub hl [0, 1, 2] rfl)
