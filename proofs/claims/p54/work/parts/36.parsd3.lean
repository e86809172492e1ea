noncomputable def S_X4_readShares_14 (pk : Int32) (pst : Int32) (pe : Int32) (tp : Nat → Int32) (tl : Int32) (dnums : Nat → Int32) : Bool × (Nat → Int32) × Int32 × Int32 × Int32 := (f_X4_readNumber pk pst pe tp tl dnums ((1 : Int32) + 0) 0 100)
noncomputable def S_X4_readShares_14a (pk : Int32) (pst : Int32) (pe : Int32) (tp : Nat → Int32) (tl : Int32) (dnums : Nat → Int32) : Bool × (Nat → Int32) × Int32 × Int32 × Int32 := (f_X4_readNumber ((S_X4_readShares_14 pk pst pe tp tl dnums).2.2.2.1) ((S_X4_readShares_14 pk pst pe tp tl dnums).2.2.2.2) ((S_X4_readShares_14 pk pst pe tp tl dnums).2.2.1) tp tl ((S_X4_readShares_14 pk pst pe tp tl dnums).2.1) ((1 : Int32) + 1) 0 100)
noncomputable def S_X4_readShares_14b (pk : Int32) (pst : Int32) (pe : Int32) (tp : Nat → Int32) (tl : Int32) (dnums : Nat → Int32) : Bool × (Nat → Int32) × Int32 × Int32 × Int32 := (f_X4_readNumber ((S_X4_readShares_14a pk pst pe tp tl dnums).2.2.2.1) ((S_X4_readShares_14a pk pst pe tp tl dnums).2.2.2.2) ((S_X4_readShares_14a pk pst pe tp tl dnums).2.2.1) tp tl ((S_X4_readShares_14a pk pst pe tp tl dnums).2.1) ((1 : Int32) + 2) 0 100)
noncomputable def S_X4_readShares_14c (pk : Int32) (pst : Int32) (pe : Int32) (tp : Nat → Int32) (tl : Int32) (dnums : Nat → Int32) : Bool × (Nat → Int32) × Int32 × Int32 × Int32 := (f_X4_readNumber ((S_X4_readShares_14b pk pst pe tp tl dnums).2.2.2.1) ((S_X4_readShares_14b pk pst pe tp tl dnums).2.2.2.2) ((S_X4_readShares_14b pk pst pe tp tl dnums).2.2.1) tp tl ((S_X4_readShares_14b pk pst pe tp tl dnums).2.1) ((1 : Int32) + 3) 0 100)
noncomputable def f_X4_readShares (pk : Int32) (pst : Int32) (pe : Int32) (tp : Nat → Int32) (tl : Int32) (dnums : Nat → Int32) : Bool × (Nat → Int32) × Int32 × Int32 × Int32 := (bif (S_X4_readShares_14 pk pst pe tp tl dnums).1 then (bif (S_X4_readShares_14a pk pst pe tp tl dnums).1 then (bif (S_X4_readShares_14b pk pst pe tp tl dnums).1 then (bif (S_X4_readShares_14c pk pst pe tp tl dnums).1 then (true, (S_X4_readShares_14c pk pst pe tp tl dnums).2.1, (S_X4_readShares_14c pk pst pe tp tl dnums).2.2.1, (S_X4_readShares_14c pk pst pe tp tl dnums).2.2.2.1, (S_X4_readShares_14c pk pst pe tp tl dnums).2.2.2.2) else (false, (S_X4_readShares_14c pk pst pe tp tl dnums).2.1, (S_X4_readShares_14c pk pst pe tp tl dnums).2.2.1, (S_X4_readShares_14c pk pst pe tp tl dnums).2.2.2.1, (S_X4_readShares_14c pk pst pe tp tl dnums).2.2.2.2)) else (false, (S_X4_readShares_14b pk pst pe tp tl dnums).2.1, (S_X4_readShares_14b pk pst pe tp tl dnums).2.2.1, (S_X4_readShares_14b pk pst pe tp tl dnums).2.2.2.1, (S_X4_readShares_14b pk pst pe tp tl dnums).2.2.2.2)) else (false, (S_X4_readShares_14a pk pst pe tp tl dnums).2.1, (S_X4_readShares_14a pk pst pe tp tl dnums).2.2.1, (S_X4_readShares_14a pk pst pe tp tl dnums).2.2.2.1, (S_X4_readShares_14a pk pst pe tp tl dnums).2.2.2.2)) else (false, (S_X4_readShares_14 pk pst pe tp tl dnums).2.1, (S_X4_readShares_14 pk pst pe tp tl dnums).2.2.1, (S_X4_readShares_14 pk pst pe tp tl dnums).2.2.2.1, (S_X4_readShares_14 pk pst pe tp tl dnums).2.2.2.2))
set_option maxHeartbeats 4000000 in
set_option maxRecDepth 100000 in
theorem c_X4_readShares (l : Launch) (D : va_G) (A : Nat → Prop) (w : va_W) (α : Nat → Nat) (k : Nat) (pk : Int32) (pst : Int32) (pe : Int32) (tp : Nat → Int32) (tl : Int32) (dnums : Nat → Int32) (dbNames : Nat → Int32) (dpNames : Nat → Int32) (dfBoats : Nat → Int32) (dnB : Int32) (dnP : Int32) (hB0 : Blk w k (cParser D α k pk pst pe tp tl dnums dbNames dpNames dfBoats dnB dnP)) (hy0 : rd3 pst pe tl) : Met l yX4_readShares (ws_ yX4_readShares cX4_readShares 2 (some .boolean)) ({ frames := 3, cells := 0, slots := 0, locals := 68 }) (gPre D A [.ref (α (k))] w) (gQ D A (some (.int (b2i (f_X4_readShares pk pst pe tp tl dnums).1))) (fun w1 => Blk w1 k (cParser D α k ((f_X4_readShares pk pst pe tp tl dnums).2.2.2.1) ((f_X4_readShares pk pst pe tp tl dnums).2.2.2.2) ((f_X4_readShares pk pst pe tp tl dnums).2.2.1) tp tl ((f_X4_readShares pk pst pe tp tl dnums).2.1) dbNames dpNames dfBoats dnB dnP) ∧ Same w w1 k 8 ∧ (rd3 (f_X4_readShares pk pst pe tp tl dnums).2.2.2.2 (f_X4_readShares pk pst pe tp tl dnums).2.2.1 tl))) 0 0 A := by
  refine g_met [(0, .ref (α (k)))] (plainFor_of_name (by decide)) (Nat.le_of_ble_eq_true rfl) rfl (fun pg en s mi ar below me co ls S hK hP hD hE hS hr hlk hnm hl => ?_)
  have hF : Same w w k 8 := Same.rf
  refine lv_iconst (v := 0) S.1 S.2.1 dX4_readShares_0 (by decide) ?_
  refine lv_istore_n (lv' := [(1, .int 0), (0, .ref (α (k)))]) S.1 S.2.1 dX4_readShares_1 rfl hl (by decide) rfl (fun ls hl => ?_)
  refine lv_iload_n S.1 S.2.1 dX4_readShares_2 rfl (lv_at hl 0 rfl) ?_
  refine lv_iconst (v := 4) S.1 S.2.1 dX4_readShares_3 (by decide) ?_
  refine lv_icmp_ge (tgt := 28) S.1 S.2.1 dX4_readShares_4 (by decide) (fun c1 => absurd c1 (by decide)) (fun _ => ?_)
  refine lv_aload_n S.1 S.2.1 dX4_readShares_7 rfl (lv_at hl 1 rfl) ?_
  refine lv_iconst (v := 1) S.1 S.2.1 dX4_readShares_8 (by decide) ?_
  refine lv_iload_n S.1 S.2.1 dX4_readShares_9 rfl (lv_at hl 0 rfl) ?_
  refine lv_iadd S.1 S.2.1 dX4_readShares_10 ?_
  refine lv_iconst (v := 0) S.1 S.2.1 dX4_readShares_11 (by decide) ?_
  refine lv_bipush (v := 100) S.1 S.2.1 dX4_readShares_12 (by decide) ?_
  have hNm : (f_X4_readNumber pk pst pe tp tl dnums ((1 : Int32) + 0) 0 100) = (S_X4_readShares_14 pk pst pe tp tl dnums) := rfl
  have hCon := (c_X4_readNumber l D A w α (k) pk pst pe tp tl dnums dbNames dpNames dfBoats dnB dnP ((1 : Int32) + 0) 0 100 hB0 (by exact hy0))
  rw [hNm] at hCon
  refine g_aft0 (st1 := [.int (b2i ((S_X4_readShares_14 pk pst pe tp tl dnums).1))]) (g_V (As := [.int ((1 : Int32) + 0), .int 0, .int 100]) (rest := []) S mi_X4_readNumber qw646 hCon hK hP hD hE hS (hB0 0 _ rfl) rfl rfl rfl hl.1 (Nat.le_of_ble_eq_true rfl) rfl rfl ⟨(Nat.le_of_ble_eq_true rfl), (Nat.le_of_ble_eq_true rfl)⟩ ⟨(Nat.le_of_ble_eq_true rfl), (Nat.le_of_ble_eq_true rfl)⟩ dX4_readShares_14) hS rfl (fun w1 H locs hQ hP hD hS => ?_)
  have hF := hF.trans hQ.2.1
  have hB0 : Blk w1 k (cParser D α k ((S_X4_readShares_14 pk pst pe tp tl dnums).2.2.2.1) ((S_X4_readShares_14 pk pst pe tp tl dnums).2.2.2.2) ((S_X4_readShares_14 pk pst pe tp tl dnums).2.2.1) tp tl ((S_X4_readShares_14 pk pst pe tp tl dnums).2.1) dbNames dpNames dfBoats dnB dnP) := hQ.1
  have hp1_0 : rd3 (S_X4_readShares_14 pk pst pe tp tl dnums).2.2.2.2 (S_X4_readShares_14 pk pst pe tp tl dnums).2.2.1 tl := hQ.2.2
  refine g_bifne (b := (S_X4_readShares_14 pk pst pe tp tl dnums).1) (tgt := 22) S dX4_readShares_17 (by decide) (fun (c2 : (S_X4_readShares_14 pk pst pe tp tl dnums).1 = true) => ?_) (fun (c2 : (S_X4_readShares_14 pk pst pe tp tl dnums).1 = false) => ?_)
  · refine lv_iinc (v := 1) (lv' := [(1, .int 1), (0, .ref (α (k)))]) S.1 S.2.1 dX4_readShares_22 hl (k := 0) rfl (by decide) (by decide) rfl (fun ls hl => ?_)
    refine lv_goto (tgt := 2) S.1 S.2.1 dX4_readShares_25 (by decide) ?_
    refine lv_iload_n S.1 S.2.1 dX4_readShares_2 rfl (lv_at hl 0 rfl) ?_
    refine lv_iconst (v := 4) S.1 S.2.1 dX4_readShares_3 (by decide) ?_
    refine lv_icmp_ge (tgt := 28) S.1 S.2.1 dX4_readShares_4 (by decide) (fun c3 => absurd c3 (by decide)) (fun _ => ?_)
    refine lv_aload_n S.1 S.2.1 dX4_readShares_7 rfl (lv_at hl 1 rfl) ?_
    refine lv_iconst (v := 1) S.1 S.2.1 dX4_readShares_8 (by decide) ?_
    refine lv_iload_n S.1 S.2.1 dX4_readShares_9 rfl (lv_at hl 0 rfl) ?_
    refine lv_iadd S.1 S.2.1 dX4_readShares_10 ?_
    refine lv_iconst (v := 0) S.1 S.2.1 dX4_readShares_11 (by decide) ?_
    refine lv_bipush (v := 100) S.1 S.2.1 dX4_readShares_12 (by decide) ?_
    have hNm : (f_X4_readNumber ((S_X4_readShares_14 pk pst pe tp tl dnums).2.2.2.1) ((S_X4_readShares_14 pk pst pe tp tl dnums).2.2.2.2) ((S_X4_readShares_14 pk pst pe tp tl dnums).2.2.1) tp tl ((S_X4_readShares_14 pk pst pe tp tl dnums).2.1) ((1 : Int32) + 1) 0 100) = (S_X4_readShares_14a pk pst pe tp tl dnums) := rfl
    have hCon := (c_X4_readNumber l D A w1 α (k) ((S_X4_readShares_14 pk pst pe tp tl dnums).2.2.2.1) ((S_X4_readShares_14 pk pst pe tp tl dnums).2.2.2.2) ((S_X4_readShares_14 pk pst pe tp tl dnums).2.2.1) tp tl ((S_X4_readShares_14 pk pst pe tp tl dnums).2.1) dbNames dpNames dfBoats dnB dnP ((1 : Int32) + 1) 0 100 hB0 (by exact hp1_0))
    rw [hNm] at hCon
    refine g_aft0 (st1 := [.int (b2i ((S_X4_readShares_14a pk pst pe tp tl dnums).1))]) (g_V (As := [.int ((1 : Int32) + 1), .int 0, .int 100]) (rest := []) S mi_X4_readNumber qw646 hCon hK hP hD hE hS (hB0 0 _ rfl) rfl rfl rfl hl.1 (Nat.le_of_ble_eq_true rfl) rfl rfl ⟨(Nat.le_of_ble_eq_true rfl), (Nat.le_of_ble_eq_true rfl)⟩ ⟨(Nat.le_of_ble_eq_true rfl), (Nat.le_of_ble_eq_true rfl)⟩ dX4_readShares_14) hS rfl (fun w2 H locs hQ hP hD hS => ?_)
    have hF := hF.trans hQ.2.1
    have hB0 : Blk w2 k (cParser D α k ((S_X4_readShares_14a pk pst pe tp tl dnums).2.2.2.1) ((S_X4_readShares_14a pk pst pe tp tl dnums).2.2.2.2) ((S_X4_readShares_14a pk pst pe tp tl dnums).2.2.1) tp tl ((S_X4_readShares_14a pk pst pe tp tl dnums).2.1) dbNames dpNames dfBoats dnB dnP) := hQ.1
    have hp2_0 : rd3 (S_X4_readShares_14a pk pst pe tp tl dnums).2.2.2.2 (S_X4_readShares_14a pk pst pe tp tl dnums).2.2.1 tl := hQ.2.2
    refine g_bifne (b := (S_X4_readShares_14a pk pst pe tp tl dnums).1) (tgt := 22) S dX4_readShares_17 (by decide) (fun (c4 : (S_X4_readShares_14a pk pst pe tp tl dnums).1 = true) => ?_) (fun (c4 : (S_X4_readShares_14a pk pst pe tp tl dnums).1 = false) => ?_)
    · refine lv_iinc (v := 2) (lv' := [(1, .int 2), (0, .ref (α (k)))]) S.1 S.2.1 dX4_readShares_22 hl (k := 0) rfl (by decide) (by decide) rfl (fun ls hl => ?_)
      refine lv_goto (tgt := 2) S.1 S.2.1 dX4_readShares_25 (by decide) ?_
      refine lv_iload_n S.1 S.2.1 dX4_readShares_2 rfl (lv_at hl 0 rfl) ?_
      refine lv_iconst (v := 4) S.1 S.2.1 dX4_readShares_3 (by decide) ?_
      refine lv_icmp_ge (tgt := 28) S.1 S.2.1 dX4_readShares_4 (by decide) (fun c5 => absurd c5 (by decide)) (fun _ => ?_)
      refine lv_aload_n S.1 S.2.1 dX4_readShares_7 rfl (lv_at hl 1 rfl) ?_
      refine lv_iconst (v := 1) S.1 S.2.1 dX4_readShares_8 (by decide) ?_
      refine lv_iload_n S.1 S.2.1 dX4_readShares_9 rfl (lv_at hl 0 rfl) ?_
      refine lv_iadd S.1 S.2.1 dX4_readShares_10 ?_
      refine lv_iconst (v := 0) S.1 S.2.1 dX4_readShares_11 (by decide) ?_
      refine lv_bipush (v := 100) S.1 S.2.1 dX4_readShares_12 (by decide) ?_
      have hNm : (f_X4_readNumber ((S_X4_readShares_14a pk pst pe tp tl dnums).2.2.2.1) ((S_X4_readShares_14a pk pst pe tp tl dnums).2.2.2.2) ((S_X4_readShares_14a pk pst pe tp tl dnums).2.2.1) tp tl ((S_X4_readShares_14a pk pst pe tp tl dnums).2.1) ((1 : Int32) + 2) 0 100) = (S_X4_readShares_14b pk pst pe tp tl dnums) := rfl
      have hCon := (c_X4_readNumber l D A w2 α (k) ((S_X4_readShares_14a pk pst pe tp tl dnums).2.2.2.1) ((S_X4_readShares_14a pk pst pe tp tl dnums).2.2.2.2) ((S_X4_readShares_14a pk pst pe tp tl dnums).2.2.1) tp tl ((S_X4_readShares_14a pk pst pe tp tl dnums).2.1) dbNames dpNames dfBoats dnB dnP ((1 : Int32) + 2) 0 100 hB0 (by exact hp2_0))
      rw [hNm] at hCon
      refine g_aft0 (st1 := [.int (b2i ((S_X4_readShares_14b pk pst pe tp tl dnums).1))]) (g_V (As := [.int ((1 : Int32) + 2), .int 0, .int 100]) (rest := []) S mi_X4_readNumber qw646 hCon hK hP hD hE hS (hB0 0 _ rfl) rfl rfl rfl hl.1 (Nat.le_of_ble_eq_true rfl) rfl rfl ⟨(Nat.le_of_ble_eq_true rfl), (Nat.le_of_ble_eq_true rfl)⟩ ⟨(Nat.le_of_ble_eq_true rfl), (Nat.le_of_ble_eq_true rfl)⟩ dX4_readShares_14) hS rfl (fun w3 H locs hQ hP hD hS => ?_)
      have hF := hF.trans hQ.2.1
      have hB0 : Blk w3 k (cParser D α k ((S_X4_readShares_14b pk pst pe tp tl dnums).2.2.2.1) ((S_X4_readShares_14b pk pst pe tp tl dnums).2.2.2.2) ((S_X4_readShares_14b pk pst pe tp tl dnums).2.2.1) tp tl ((S_X4_readShares_14b pk pst pe tp tl dnums).2.1) dbNames dpNames dfBoats dnB dnP) := hQ.1
      have hp3_0 : rd3 (S_X4_readShares_14b pk pst pe tp tl dnums).2.2.2.2 (S_X4_readShares_14b pk pst pe tp tl dnums).2.2.1 tl := hQ.2.2
      refine g_bifne (b := (S_X4_readShares_14b pk pst pe tp tl dnums).1) (tgt := 22) S dX4_readShares_17 (by decide) (fun (c6 : (S_X4_readShares_14b pk pst pe tp tl dnums).1 = true) => ?_) (fun (c6 : (S_X4_readShares_14b pk pst pe tp tl dnums).1 = false) => ?_)
      · refine lv_iinc (v := 3) (lv' := [(1, .int 3), (0, .ref (α (k)))]) S.1 S.2.1 dX4_readShares_22 hl (k := 0) rfl (by decide) (by decide) rfl (fun ls hl => ?_)
        refine lv_goto (tgt := 2) S.1 S.2.1 dX4_readShares_25 (by decide) ?_
        refine lv_iload_n S.1 S.2.1 dX4_readShares_2 rfl (lv_at hl 0 rfl) ?_
        refine lv_iconst (v := 4) S.1 S.2.1 dX4_readShares_3 (by decide) ?_
        refine lv_icmp_ge (tgt := 28) S.1 S.2.1 dX4_readShares_4 (by decide) (fun c7 => absurd c7 (by decide)) (fun _ => ?_)
        refine lv_aload_n S.1 S.2.1 dX4_readShares_7 rfl (lv_at hl 1 rfl) ?_
        refine lv_iconst (v := 1) S.1 S.2.1 dX4_readShares_8 (by decide) ?_
        refine lv_iload_n S.1 S.2.1 dX4_readShares_9 rfl (lv_at hl 0 rfl) ?_
        refine lv_iadd S.1 S.2.1 dX4_readShares_10 ?_
        refine lv_iconst (v := 0) S.1 S.2.1 dX4_readShares_11 (by decide) ?_
        refine lv_bipush (v := 100) S.1 S.2.1 dX4_readShares_12 (by decide) ?_
        have hNm : (f_X4_readNumber ((S_X4_readShares_14b pk pst pe tp tl dnums).2.2.2.1) ((S_X4_readShares_14b pk pst pe tp tl dnums).2.2.2.2) ((S_X4_readShares_14b pk pst pe tp tl dnums).2.2.1) tp tl ((S_X4_readShares_14b pk pst pe tp tl dnums).2.1) ((1 : Int32) + 3) 0 100) = (S_X4_readShares_14c pk pst pe tp tl dnums) := rfl
        have hCon := (c_X4_readNumber l D A w3 α (k) ((S_X4_readShares_14b pk pst pe tp tl dnums).2.2.2.1) ((S_X4_readShares_14b pk pst pe tp tl dnums).2.2.2.2) ((S_X4_readShares_14b pk pst pe tp tl dnums).2.2.1) tp tl ((S_X4_readShares_14b pk pst pe tp tl dnums).2.1) dbNames dpNames dfBoats dnB dnP ((1 : Int32) + 3) 0 100 hB0 (by exact hp3_0))
        rw [hNm] at hCon
        refine g_aft0 (st1 := [.int (b2i ((S_X4_readShares_14c pk pst pe tp tl dnums).1))]) (g_V (As := [.int ((1 : Int32) + 3), .int 0, .int 100]) (rest := []) S mi_X4_readNumber qw646 hCon hK hP hD hE hS (hB0 0 _ rfl) rfl rfl rfl hl.1 (Nat.le_of_ble_eq_true rfl) rfl rfl ⟨(Nat.le_of_ble_eq_true rfl), (Nat.le_of_ble_eq_true rfl)⟩ ⟨(Nat.le_of_ble_eq_true rfl), (Nat.le_of_ble_eq_true rfl)⟩ dX4_readShares_14) hS rfl (fun w4 H locs hQ hP hD hS => ?_)
        have hF := hF.trans hQ.2.1
        have hB0 : Blk w4 k (cParser D α k ((S_X4_readShares_14c pk pst pe tp tl dnums).2.2.2.1) ((S_X4_readShares_14c pk pst pe tp tl dnums).2.2.2.2) ((S_X4_readShares_14c pk pst pe tp tl dnums).2.2.1) tp tl ((S_X4_readShares_14c pk pst pe tp tl dnums).2.1) dbNames dpNames dfBoats dnB dnP) := hQ.1
        have hp4_0 : rd3 (S_X4_readShares_14c pk pst pe tp tl dnums).2.2.2.2 (S_X4_readShares_14c pk pst pe tp tl dnums).2.2.1 tl := hQ.2.2
        refine g_bifne (b := (S_X4_readShares_14c pk pst pe tp tl dnums).1) (tgt := 22) S dX4_readShares_17 (by decide) (fun (c8 : (S_X4_readShares_14c pk pst pe tp tl dnums).1 = true) => ?_) (fun (c8 : (S_X4_readShares_14c pk pst pe tp tl dnums).1 = false) => ?_)
        · refine lv_iinc (v := 4) (lv' := [(1, .int 4), (0, .ref (α (k)))]) S.1 S.2.1 dX4_readShares_22 hl (k := 0) rfl (by decide) (by decide) rfl (fun ls hl => ?_)
          refine lv_goto (tgt := 2) S.1 S.2.1 dX4_readShares_25 (by decide) ?_
          refine lv_iload_n S.1 S.2.1 dX4_readShares_2 rfl (lv_at hl 0 rfl) ?_
          refine lv_iconst (v := 4) S.1 S.2.1 dX4_readShares_3 (by decide) ?_
          refine lv_icmp_ge (tgt := 28) S.1 S.2.1 dX4_readShares_4 (by decide) (fun _ => ?_) (fun c9 => absurd c9 (by decide))
          refine lv_iconst (v := 1) S.1 S.2.1 dX4_readShares_28 (by decide) ?_
          have hf : (f_X4_readShares pk pst pe tp tl dnums) = (true, (S_X4_readShares_14c pk pst pe tp tl dnums).2.1, (S_X4_readShares_14c pk pst pe tp tl dnums).2.2.1, (S_X4_readShares_14c pk pst pe tp tl dnums).2.2.2.1, (S_X4_readShares_14c pk pst pe tp tl dnums).2.2.2.2) := (cd_t c2).trans ((cd_t c4).trans ((cd_t c6).trans (cd_t c8)))
          exact g_zret S hr hlk hP hD hS rfl (by rw [hf] <;> rfl) (⟨by rw [hf]; dsimp only; exact hB0, hF, by rw [hf]; (try dsimp only); exact hp4_0⟩) dX4_readShares_29
        · refine lv_iconst (v := 0) S.1 S.2.1 dX4_readShares_20 (by decide) ?_
          have hf : (f_X4_readShares pk pst pe tp tl dnums) = (false, (S_X4_readShares_14c pk pst pe tp tl dnums).2.1, (S_X4_readShares_14c pk pst pe tp tl dnums).2.2.1, (S_X4_readShares_14c pk pst pe tp tl dnums).2.2.2.1, (S_X4_readShares_14c pk pst pe tp tl dnums).2.2.2.2) := (cd_t c2).trans ((cd_t c4).trans ((cd_t c6).trans (cd_f c8)))
          exact g_zret S hr hlk hP hD hS rfl (by rw [hf] <;> rfl) (⟨by rw [hf]; dsimp only; exact hB0, hF, by rw [hf]; (try dsimp only); exact hp4_0⟩) dX4_readShares_21
      · refine lv_iconst (v := 0) S.1 S.2.1 dX4_readShares_20 (by decide) ?_
        have hf : (f_X4_readShares pk pst pe tp tl dnums) = (false, (S_X4_readShares_14b pk pst pe tp tl dnums).2.1, (S_X4_readShares_14b pk pst pe tp tl dnums).2.2.1, (S_X4_readShares_14b pk pst pe tp tl dnums).2.2.2.1, (S_X4_readShares_14b pk pst pe tp tl dnums).2.2.2.2) := (cd_t c2).trans ((cd_t c4).trans (cd_f c6))
        exact g_zret S hr hlk hP hD hS rfl (by rw [hf] <;> rfl) (⟨by rw [hf]; dsimp only; exact hB0, hF, by rw [hf]; (try dsimp only); exact hp3_0⟩) dX4_readShares_21
    · refine lv_iconst (v := 0) S.1 S.2.1 dX4_readShares_20 (by decide) ?_
      have hf : (f_X4_readShares pk pst pe tp tl dnums) = (false, (S_X4_readShares_14a pk pst pe tp tl dnums).2.1, (S_X4_readShares_14a pk pst pe tp tl dnums).2.2.1, (S_X4_readShares_14a pk pst pe tp tl dnums).2.2.2.1, (S_X4_readShares_14a pk pst pe tp tl dnums).2.2.2.2) := (cd_t c2).trans (cd_f c4)
      exact g_zret S hr hlk hP hD hS rfl (by rw [hf] <;> rfl) (⟨by rw [hf]; dsimp only; exact hB0, hF, by rw [hf]; (try dsimp only); exact hp2_0⟩) dX4_readShares_21
  · refine lv_iconst (v := 0) S.1 S.2.1 dX4_readShares_20 (by decide) ?_
    have hf : (f_X4_readShares pk pst pe tp tl dnums) = (false, (S_X4_readShares_14 pk pst pe tp tl dnums).2.1, (S_X4_readShares_14 pk pst pe tp tl dnums).2.2.1, (S_X4_readShares_14 pk pst pe tp tl dnums).2.2.2.1, (S_X4_readShares_14 pk pst pe tp tl dnums).2.2.2.2) := cd_f c2
    exact g_zret S hr hlk hP hD hS rfl (by rw [hf] <;> rfl) (⟨by rw [hf]; dsimp only; exact hB0, hF, by rw [hf]; (try dsimp only); exact hp1_0⟩) dX4_readShares_21
