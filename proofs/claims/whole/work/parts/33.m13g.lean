def J_X12_isName_6 (x : Int32) : Bool := (if (x >>> ((25 : Int32) &&& 31)) ≤ 0 then false else (if (x >>> ((30 : Int32) &&& 31)) = 0 then true else false))
def J_X12_isName_38 (x : Int32) (n : Nat) (sn : Bool × Bool) : Bool := (bif sn.1 then (if 27 ≤ ((x >>> ((sh5 (n)) &&& 31)) &&& 31) then false else (bif sn.2 then (if 0 < ((x >>> ((sh5 (n)) &&& 31)) &&& 31) then false else true) else true)) else false)
def J_X12_isName_64 (x : Int32) (n : Nat) (sn : Bool × Bool) : Bool := (bif sn.2 then true else (if ((x >>> ((sh5 (n)) &&& 31)) &&& 31) = 0 then true else false))
def L_X12_isName_25 (x : Int32) : Nat → Bool × Bool := iter_ (fun n sn => ((J_X12_isName_38 x n sn), (J_X12_isName_64 x n sn))) ((J_X12_isName_6 x), false)
def f_X12_isName (x : Int32) : Bool := (L_X12_isName_25 x 6).1
set_option maxHeartbeats 4000000 in
set_option maxRecDepth 100000 in
theorem c_X12_isName (l : Launch) (D : va_G) (A : Nat → Prop) (w : va_W) (α : Nat → Nat) (x : Int32) : Met l yX12_isName (ws_ yX12_isName cX12_isName 5 (some .boolean)) ({ frames := 0, cells := 0, slots := 0, locals := 0 }) (gPre D A [.int x] w) (gR (some (.int (b2i (f_X12_isName x))))) 0 0 A := by
  refine g_met [(0, .int x)] (plainFor_of_name (by decide)) (Nat.le_of_ble_eq_true rfl) rfl (fun pg en s mi ar below me co ls S hK hP hD hE hS hr hlk hnm hl => ?_)
  refine lv_iconst (v := 0) S.1 S.2.1 dX12_isName_0 (by decide) ?_
  refine lv_istore_n (lv' := [(1, .int 0), (0, .int x)]) S.1 S.2.1 dX12_isName_1 rfl hl (by decide) rfl (fun ls hl => ?_)
  refine lv_iload_n S.1 S.2.1 dX12_isName_2 rfl (lv_at hl 1 rfl) ?_
  refine lv_bipush (v := 25) S.1 S.2.1 dX12_isName_3 (by decide) ?_
  refine lv_ishr S.1 S.2.1 dX12_isName_5 ?_
  have jn6 : ∀ (locs : List Loc) (ls : Array Slot), va_S A s.heap s.heap locs → lv_has ls 5 [(1, .int 0), (0, .int x)] → W pg l en ({ frames := 0, cells := 0, slots := 0, locals := 0 } : Room) s mi ar below me co s.heap locs 0 0 (MQ below (gR (some (.int (b2i (f_X12_isName x))))) ar s 0 0 A) (F0 mi 21 ls [.int (b2i (J_X12_isName_6 x))]) := by
    intro locs ls hS hl
    refine lv_istore_n (lv' := [(2, .int (b2i (J_X12_isName_6 x))), (1, .int 0), (0, .int x)]) S.1 S.2.1 dX12_isName_21 rfl hl (by decide) rfl (fun ls hl => ?_)
    refine lv_bipush (v := 25) S.1 S.2.1 dX12_isName_22 (by decide) ?_
    refine lv_istore_n (lv' := [(3, .int 25), (2, .int (b2i (J_X12_isName_6 x))), (1, .int 0), (0, .int x)]) S.1 S.2.1 dX12_isName_24 rfl hl (by decide) rfl (fun ls hl => ?_)
    have lp25 : ∀ (j n : Nat), n + j = 6 → ∀ (locs : List Loc) (ls : Array Slot), va_S A s.heap s.heap locs → lv_has ls 5 [(3, .int (sh5 (n))), (2, .int (b2i ((L_X12_isName_25 x n).1))), (1, .int (b2i ((L_X12_isName_25 x n).2))), (0, .int x)] → W pg l en ({ frames := 0, cells := 0, slots := 0, locals := 0 } : Room) s mi ar below me co s.heap locs 0 0 (MQ below (gR (some (.int (b2i (f_X12_isName x))))) ar s 0 0 A) (F0 mi 25 ls []) := by
      intro j
      induction j with
      | zero =>
        intro n hn locs ls hS hl
        have hn : 6 = n := hn.symm
        subst hn
        refine lv_iload_n S.1 S.2.1 dX12_isName_25 rfl (lv_at hl 0 rfl) ?_
        refine lv_if_lt (tgt := 84) S.1 S.2.1 dX12_isName_26 (by decide) (fun (c3 : (sh5 (6)) < 0) => ?_) (fun (c3 : ¬ (sh5 (6)) < 0) => absurd c3 (sh5_out))
        refine lv_iload_n S.1 S.2.1 dX12_isName_84 rfl (lv_at hl 1 rfl) ?_
        have hf : (f_X12_isName x) = (L_X12_isName_25 x 6).1 := rfl
        exact g_zretR S hr hlk hS (b2i_nar _) (by rw [hf] <;> rfl) dX12_isName_85
      | succ j ih =>
        intro n hn locs ls hS hl
        refine lv_iload_n S.1 S.2.1 dX12_isName_25 rfl (lv_at hl 0 rfl) ?_
        refine lv_if_lt (tgt := 84) S.1 S.2.1 dX12_isName_26 (by decide) (fun (c4 : (sh5 (n)) < 0) => absurd c4 (sh5_in hn)) (fun (c4 : ¬ (sh5 (n)) < 0) => ?_)
        refine lv_iload_n S.1 S.2.1 dX12_isName_29 rfl (lv_at hl 3 rfl) ?_
        refine lv_iload_n S.1 S.2.1 dX12_isName_30 rfl (lv_at hl 0 rfl) ?_
        refine lv_ishr S.1 S.2.1 dX12_isName_31 ?_
        refine lv_bipush (v := 31) S.1 S.2.1 dX12_isName_32 (by decide) ?_
        refine lv_iand S.1 S.2.1 dX12_isName_34 ?_
        refine lv_istore (lv' := [(4, .int ((x >>> ((sh5 (n)) &&& 31)) &&& 31)), (3, .int (sh5 (n))), (2, .int (b2i ((L_X12_isName_25 x n).1))), (1, .int (b2i ((L_X12_isName_25 x n).2))), (0, .int x)]) S.1 S.2.1 dX12_isName_35 hl (by decide) rfl (fun ls hl => ?_)
        refine lv_iload_n S.1 S.2.1 dX12_isName_37 rfl (lv_at hl 2 rfl) ?_
        have jn38 : ∀ (locs : List Loc) (ls : Array Slot), va_S A s.heap s.heap locs → lv_has ls 5 [(4, .int ((x >>> ((sh5 (n)) &&& 31)) &&& 31)), (3, .int (sh5 (n))), (2, .int (b2i ((L_X12_isName_25 x n).1))), (1, .int (b2i ((L_X12_isName_25 x n).2))), (0, .int x)] → W pg l en ({ frames := 0, cells := 0, slots := 0, locals := 0 } : Room) s mi ar below me co s.heap locs 0 0 (MQ below (gR (some (.int (b2i (f_X12_isName x))))) ar s 0 0 A) (F0 mi 62 ls [.int (b2i (J_X12_isName_38 x n (L_X12_isName_25 x n)))]) := by
          intro locs ls hS hl
          refine lv_istore_n (lv' := [(2, .int (b2i (J_X12_isName_38 x n (L_X12_isName_25 x n)))), (4, .int ((x >>> ((sh5 (n)) &&& 31)) &&& 31)), (3, .int (sh5 (n))), (1, .int (b2i ((L_X12_isName_25 x n).2))), (0, .int x)]) S.1 S.2.1 dX12_isName_62 rfl hl (by decide) rfl (fun ls hl => ?_)
          refine lv_iload_n S.1 S.2.1 dX12_isName_63 rfl (lv_at hl 3 rfl) ?_
          have jn64 : ∀ (locs : List Loc) (ls : Array Slot), va_S A s.heap s.heap locs → lv_has ls 5 [(2, .int (b2i (J_X12_isName_38 x n (L_X12_isName_25 x n)))), (4, .int ((x >>> ((sh5 (n)) &&& 31)) &&& 31)), (3, .int (sh5 (n))), (1, .int (b2i ((L_X12_isName_25 x n).2))), (0, .int x)] → W pg l en ({ frames := 0, cells := 0, slots := 0, locals := 0 } : Room) s mi ar below me co s.heap locs 0 0 (MQ below (gR (some (.int (b2i (f_X12_isName x))))) ar s 0 0 A) (F0 mi 77 ls [.int (b2i (J_X12_isName_64 x n (L_X12_isName_25 x n)))]) := by
            intro locs ls hS hl
            refine lv_istore_n (lv' := [(1, .int (b2i (J_X12_isName_64 x n (L_X12_isName_25 x n)))), (2, .int (b2i (J_X12_isName_38 x n (L_X12_isName_25 x n)))), (4, .int ((x >>> ((sh5 (n)) &&& 31)) &&& 31)), (3, .int (sh5 (n))), (0, .int x)]) S.1 S.2.1 dX12_isName_77 rfl hl (by decide) rfl (fun ls hl => ?_)
            refine lv_iinc (v := (sh5 (n + 1))) (lv' := [(3, .int (sh5 (n + 1))), (1, .int (b2i (J_X12_isName_64 x n (L_X12_isName_25 x n)))), (2, .int (b2i (J_X12_isName_38 x n (L_X12_isName_25 x n)))), (4, .int ((x >>> ((sh5 (n)) &&& 31)) &&& 31)), (0, .int x)]) S.1 S.2.1 dX12_isName_78 hl (k := 3) rfl (sh5_s n) (by decide) rfl (fun ls hl => ?_)
            refine lv_goto (tgt := 25) S.1 S.2.1 dX12_isName_81 (by decide) ?_
            have hL : (L_X12_isName_25 x (n + 1)) = ((J_X12_isName_38 x n (L_X12_isName_25 x n)), (J_X12_isName_64 x n (L_X12_isName_25 x n))) := (iter_s _ _ _).trans (rfl)
            refine ih (n + 1) (by omega) _ _ hS ?_
            rw [hL]; exact lv_sub hl [0, 2, 1, 4] rfl
          refine g_bifne (b := (L_X12_isName_25 x n).2) (tgt := 72) S dX12_isName_64 (by decide) (fun (c9 : (L_X12_isName_25 x n).2 = true) => ?_) (fun (c9 : (L_X12_isName_25 x n).2 = false) => ?_)
          · refine lv_iconst (v := 1) S.1 S.2.1 dX12_isName_72 (by decide) ?_
            refine lv_goto (tgt := 77) S.1 S.2.1 dX12_isName_73 (by decide) ?_
            have hJ : (J_X12_isName_64 x n (L_X12_isName_25 x n)) = true := cd_t c9
            have qj := jn64
            rw [hJ] at qj
            exact qj _ _ hS (lv_sub hl [0, 1, 2, 3, 4] rfl)
          · refine lv_iload S.1 S.2.1 dX12_isName_67 (lv_at hl 1 rfl) ?_
            refine lv_if_ne (tgt := 76) S.1 S.2.1 dX12_isName_69 (by decide) (fun (c10 : ¬ ((x >>> ((sh5 (n)) &&& 31)) &&& 31) = 0) => ?_) (fun (c10 : ((x >>> ((sh5 (n)) &&& 31)) &&& 31) = 0) => ?_)
            · refine lv_iconst (v := 0) S.1 S.2.1 dX12_isName_76 (by decide) ?_
              have hJ : (J_X12_isName_64 x n (L_X12_isName_25 x n)) = false := (cd_f c9).trans (if_neg c10)
              have qj := jn64
              rw [hJ] at qj
              exact qj _ _ hS (lv_sub hl [0, 1, 2, 3, 4] rfl)
            · refine lv_iconst (v := 1) S.1 S.2.1 dX12_isName_72 (by decide) ?_
              refine lv_goto (tgt := 77) S.1 S.2.1 dX12_isName_73 (by decide) ?_
              have hJ : (J_X12_isName_64 x n (L_X12_isName_25 x n)) = true := (cd_f c9).trans (if_pos c10)
              have qj := jn64
              rw [hJ] at qj
              exact qj _ _ hS (lv_sub hl [0, 1, 2, 3, 4] rfl)
        refine g_bifeq (b := (L_X12_isName_25 x n).1) (tgt := 61) S dX12_isName_38 (by decide) (fun (c5 : (L_X12_isName_25 x n).1 = false) => ?_) (fun (c5 : (L_X12_isName_25 x n).1 = true) => ?_)
        · refine lv_iconst (v := 0) S.1 S.2.1 dX12_isName_61 (by decide) ?_
          have hJ : (J_X12_isName_38 x n (L_X12_isName_25 x n)) = false := cd_f c5
          have qj := jn38
          rw [hJ] at qj
          exact qj _ _ hS (lv_sub hl [0, 1, 2, 3, 4] rfl)
        · refine lv_iload S.1 S.2.1 dX12_isName_41 (lv_at hl 0 rfl) ?_
          refine lv_bipush (v := 27) S.1 S.2.1 dX12_isName_43 (by decide) ?_
          refine lv_icmp_ge (tgt := 61) S.1 S.2.1 dX12_isName_45 (by decide) (fun (c6 : 27 ≤ ((x >>> ((sh5 (n)) &&& 31)) &&& 31)) => ?_) (fun (c6 : ¬ 27 ≤ ((x >>> ((sh5 (n)) &&& 31)) &&& 31)) => ?_)
          · refine lv_iconst (v := 0) S.1 S.2.1 dX12_isName_61 (by decide) ?_
            have hJ : (J_X12_isName_38 x n (L_X12_isName_25 x n)) = false := (cd_t c5).trans (if_pos c6)
            have qj := jn38
            rw [hJ] at qj
            exact qj _ _ hS (lv_sub hl [0, 1, 2, 3, 4] rfl)
          · refine lv_iload_n S.1 S.2.1 dX12_isName_48 rfl (lv_at hl 3 rfl) ?_
            refine g_bifeq (b := (L_X12_isName_25 x n).2) (tgt := 57) S dX12_isName_49 (by decide) (fun (c7 : (L_X12_isName_25 x n).2 = false) => ?_) (fun (c7 : (L_X12_isName_25 x n).2 = true) => ?_)
            · refine lv_iconst (v := 1) S.1 S.2.1 dX12_isName_57 (by decide) ?_
              refine lv_goto (tgt := 62) S.1 S.2.1 dX12_isName_58 (by decide) ?_
              have hJ : (J_X12_isName_38 x n (L_X12_isName_25 x n)) = true := (cd_t c5).trans ((if_neg c6).trans (cd_f c7))
              have qj := jn38
              rw [hJ] at qj
              exact qj _ _ hS (lv_sub hl [0, 1, 2, 3, 4] rfl)
            · refine lv_iload S.1 S.2.1 dX12_isName_52 (lv_at hl 0 rfl) ?_
              refine lv_if_gt (tgt := 61) S.1 S.2.1 dX12_isName_54 (by decide) (fun (c8 : 0 < ((x >>> ((sh5 (n)) &&& 31)) &&& 31)) => ?_) (fun (c8 : ¬ 0 < ((x >>> ((sh5 (n)) &&& 31)) &&& 31)) => ?_)
              · refine lv_iconst (v := 0) S.1 S.2.1 dX12_isName_61 (by decide) ?_
                have hJ : (J_X12_isName_38 x n (L_X12_isName_25 x n)) = false := (cd_t c5).trans ((if_neg c6).trans ((cd_t c7).trans (if_pos c8)))
                have qj := jn38
                rw [hJ] at qj
                exact qj _ _ hS (lv_sub hl [0, 1, 2, 3, 4] rfl)
              · refine lv_iconst (v := 1) S.1 S.2.1 dX12_isName_57 (by decide) ?_
                refine lv_goto (tgt := 62) S.1 S.2.1 dX12_isName_58 (by decide) ?_
                have hJ : (J_X12_isName_38 x n (L_X12_isName_25 x n)) = true := (cd_t c5).trans ((if_neg c6).trans ((cd_t c7).trans (if_neg c8)))
                have qj := jn38
                rw [hJ] at qj
                exact qj _ _ hS (lv_sub hl [0, 1, 2, 3, 4] rfl)
    have hL0 : (L_X12_isName_25 x 0) = ((J_X12_isName_6 x), false) := iter_z _ _
    exact lp25 6 0 (Nat.zero_add _) _ _ hS (by rw [hL0]; exact lv_sub hl [0, 1, 2, 3] rfl)
  refine lv_if_le (tgt := 20) S.1 S.2.1 dX12_isName_6 (by decide) (fun (c1 : (x >>> ((25 : Int32) &&& 31)) ≤ 0) => ?_) (fun (c1 : ¬ (x >>> ((25 : Int32) &&& 31)) ≤ 0) => ?_)
  · refine lv_iconst (v := 0) S.1 S.2.1 dX12_isName_20 (by decide) ?_
    have hJ : (J_X12_isName_6 x) = false := if_pos c1
    have qj := jn6
    rw [hJ] at qj
    exact qj _ _ hS (lv_sub hl [0, 1] rfl)
  · refine lv_iload_n S.1 S.2.1 dX12_isName_9 rfl (lv_at hl 1 rfl) ?_
    refine lv_bipush (v := 30) S.1 S.2.1 dX12_isName_10 (by decide) ?_
    refine lv_ishr S.1 S.2.1 dX12_isName_12 ?_
    refine lv_if_ne (tgt := 20) S.1 S.2.1 dX12_isName_13 (by decide) (fun (c2 : ¬ (x >>> ((30 : Int32) &&& 31)) = 0) => ?_) (fun (c2 : (x >>> ((30 : Int32) &&& 31)) = 0) => ?_)
    · refine lv_iconst (v := 0) S.1 S.2.1 dX12_isName_20 (by decide) ?_
      have hJ : (J_X12_isName_6 x) = false := (if_neg c1).trans (if_neg c2)
      have qj := jn6
      rw [hJ] at qj
      exact qj _ _ hS (lv_sub hl [0, 1] rfl)
    · refine lv_iconst (v := 1) S.1 S.2.1 dX12_isName_16 (by decide) ?_
      refine lv_goto (tgt := 21) S.1 S.2.1 dX12_isName_17 (by decide) ?_
      have hJ : (J_X12_isName_6 x) = true := (if_neg c1).trans (if_pos c2)
      have qj := jn6
      rw [hJ] at qj
      exact qj _ _ hS (lv_sub hl [0, 1] rfl)
