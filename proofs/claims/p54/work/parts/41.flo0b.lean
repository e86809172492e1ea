noncomputable def G_X2_daysAtSeaOfAll_4 (daysO : Nat → Int32) (n : Nat) (sn : Int64) : Int64 := (sn + (f_X2_daysAtSeaOf daysO (nI n)).toInt64)
noncomputable def L_X2_daysAtSeaOfAll_4 (daysO : Nat → Int32) : Nat → Int64 := iter_ (G_X2_daysAtSeaOfAll_4 daysO) 0
noncomputable def f_X2_daysAtSeaOfAll (daysO : Nat → Int32) : Int64 := (L_X2_daysAtSeaOfAll_4 daysO 20)
set_option maxHeartbeats 4000000 in
set_option maxRecDepth 100000 in
theorem c_X2_daysAtSeaOfAll (l : Launch) (D : va_G) (A : Nat → Prop) (w : va_W) (α : Nat → Nat) (k : Nat) (boatO : Nat → Int32) (seaO : Nat → Int32) (faultO : Nat → Int32) (daysO : Nat → Int32) (backB : Nat → Int32) (sailB : Nat → Int32) (hB0 : Blk w k (cFleet D α k boatO seaO faultO daysO backB sailB)) : Met l yX2_daysAtSeaOfAll (ws_ yX2_daysAtSeaOfAll cX2_daysAtSeaOfAll 4 (some .long)) ({ frames := 2, cells := 0, slots := 0, locals := 43 }) (gPre D A [.ref (α (k))] w) (gR (some (.long (f_X2_daysAtSeaOfAll daysO)))) 0 0 A := by
  refine g_met [(0, .ref (α (k)))] (plainFor_of_name (by decide)) (Nat.le_of_ble_eq_true rfl) rfl (fun pg en s mi ar below me co ls S hK hP hD hE hS hr hlk hnm hl => ?_)
  refine lv_lconst (v := 0) S.1 S.2.1 dX2_daysAtSeaOfAll_0 (by decide) ?_
  refine lv_lstore_n (lv' := [(1, .long 0), (0, .ref (α (k)))]) S.1 S.2.1 dX2_daysAtSeaOfAll_1 rfl hl (by decide) rfl (fun ls hl => ?_)
  refine lv_iconst (v := 0) S.1 S.2.1 dX2_daysAtSeaOfAll_2 (by decide) ?_
  refine lv_istore_n (lv' := [(3, .int 0), (1, .long 0), (0, .ref (α (k)))]) S.1 S.2.1 dX2_daysAtSeaOfAll_3 rfl hl (by decide) rfl (fun ls hl => ?_)
  have lp4 : ∀ (j n : Nat), n + j = 20 → ∀ (locs : List Loc) (ls : Array Slot), va_S A s.heap s.heap locs → lv_has ls 4 [(3, .int (nI n)), (1, .long (L_X2_daysAtSeaOfAll_4 daysO n)), (0, .ref (α (k)))] → W pg l en ({ frames := 2, cells := 0, slots := 0, locals := 43 } : Room) s mi ar below me co s.heap locs 0 0 (MQ below (gR (some (.long (f_X2_daysAtSeaOfAll daysO)))) ar s 0 0 A) (F0 mi 4 ls []) := by
    intro j
    induction j with
    | zero =>
      intro n hn locs ls hS hl
      have hn : 20 = n := hn.symm
      subst hn
      refine lv_iload_n S.1 S.2.1 dX2_daysAtSeaOfAll_4 rfl (lv_at hl 0 rfl) ?_
      refine lv_bipush (v := 20) S.1 S.2.1 dX2_daysAtSeaOfAll_5 (by decide) ?_
      refine lv_icmp_ge (tgt := 25) S.1 S.2.1 dX2_daysAtSeaOfAll_7 (by decide) (fun (c1 : 20 ≤ (nI 20)) => ?_) (fun (c1 : ¬ 20 ≤ (nI 20)) => absurd c1 (lp_out (s := 0) (by decide)))
      refine lv_lload_n S.1 S.2.1 dX2_daysAtSeaOfAll_25 rfl (lv_at hl 1 rfl) ?_
      have hf : (f_X2_daysAtSeaOfAll daysO) = (L_X2_daysAtSeaOfAll_4 daysO 20) := rfl
      exact g_lretR S hr hlk hS (by rw [hf] <;> rfl) dX2_daysAtSeaOfAll_26
    | succ j ih =>
      intro n hn locs ls hS hl
      refine lv_iload_n S.1 S.2.1 dX2_daysAtSeaOfAll_4 rfl (lv_at hl 0 rfl) ?_
      refine lv_bipush (v := 20) S.1 S.2.1 dX2_daysAtSeaOfAll_5 (by decide) ?_
      refine lv_icmp_ge (tgt := 25) S.1 S.2.1 dX2_daysAtSeaOfAll_7 (by decide) (fun (c2 : 20 ≤ (nI n)) => absurd c2 (lp_in (s := 0) (by decide) hn)) (fun (c2 : ¬ 20 ≤ (nI n)) => ?_)
      refine lv_lload_n S.1 S.2.1 dX2_daysAtSeaOfAll_10 rfl (lv_at hl 1 rfl) ?_
      refine lv_aload_n S.1 S.2.1 dX2_daysAtSeaOfAll_11 rfl (lv_at hl 2 rfl) ?_
      refine lv_iload_n S.1 S.2.1 dX2_daysAtSeaOfAll_12 rfl (lv_at hl 0 rfl) ?_
      refine g_aftR0 (st1 := [.int (f_X2_daysAtSeaOf daysO (nI n)), .long (L_X2_daysAtSeaOfAll_4 daysO n)]) (g_V (As := [.int (nI n)]) (rest := [.long (L_X2_daysAtSeaOfAll_4 daysO n)]) S mi_X2_daysAtSeaOf qw1295 (c_X2_daysAtSeaOf l D A w α (k) boatO seaO faultO daysO backB sailB (nI n) hB0) hK hP hD hE hS (hB0 0 _ rfl) rfl rfl rfl hl.1 (Nat.le_of_ble_eq_true rfl) rfl rfl ⟨(Nat.le_of_ble_eq_true rfl), (Nat.le_of_ble_eq_true rfl)⟩ ⟨(Nat.le_of_ble_eq_true rfl), (Nat.le_of_ble_eq_true rfl)⟩ dX2_daysAtSeaOfAll_13) hS rfl (fun locs hS => ?_)
      refine lv_i2l (v := (f_X2_daysAtSeaOf daysO (nI n)).toInt64) S.1 S.2.1 dX2_daysAtSeaOfAll_16 rfl ?_
      refine lv_ladd S.1 S.2.1 dX2_daysAtSeaOfAll_17 ?_
      refine lv_lstore_n (lv' := [(1, .long ((L_X2_daysAtSeaOfAll_4 daysO n) + (f_X2_daysAtSeaOf daysO (nI n)).toInt64)), (3, .int (nI n)), (0, .ref (α (k)))]) S.1 S.2.1 dX2_daysAtSeaOfAll_18 rfl hl (by decide) rfl (fun ls hl => ?_)
      refine lv_iinc (v := (nI (n + 1))) (lv' := [(3, .int (nI (n + 1))), (1, .long ((L_X2_daysAtSeaOfAll_4 daysO n) + (f_X2_daysAtSeaOf daysO (nI n)).toInt64)), (0, .ref (α (k)))]) S.1 S.2.1 dX2_daysAtSeaOfAll_19 hl (k := 1) rfl ((nI_succ n).symm) (by decide) rfl (fun ls hl => ?_)
      refine lv_goto (tgt := 4) S.1 S.2.1 dX2_daysAtSeaOfAll_22 (by decide) ?_
      have hL : (L_X2_daysAtSeaOfAll_4 daysO (n + 1)) = ((L_X2_daysAtSeaOfAll_4 daysO n) + (f_X2_daysAtSeaOf daysO (nI n)).toInt64) := (iter_s _ _ _).trans (show (G_X2_daysAtSeaOfAll_4 daysO n (L_X2_daysAtSeaOfAll_4 daysO n)) = ((L_X2_daysAtSeaOfAll_4 daysO n) + (f_X2_daysAtSeaOf daysO (nI n)).toInt64) from rfl)
      refine ih (n + 1) (lp_n hn) _ _ hS ?_
      rw [hL]; exact lv_sub hl [0, 1, 2] rfl
  have hL0 : (L_X2_daysAtSeaOfAll_4 daysO 0) = 0 := iter_z _ _
  exact lp4 20 0 (Nat.zero_add 20) _ _ hS (by rw [hL0]; exact lv_sub hl [0, 1, 2] rfl)
