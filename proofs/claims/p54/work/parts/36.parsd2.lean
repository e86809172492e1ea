noncomputable def S_X4_readNumber_37 (pst : Int32) (pe : Int32) (tp : Nat → Int32) (tl : Int32) (dnums : Nat → Int32) (x : Int32) : (Nat → Int32) := (f_X7_setNumber dnums x (f_X4_digits pst pe tp tl))
noncomputable def S_X4_readNumber_41 (pe : Int32) (tp : Nat → Int32) (tl : Int32) : Int32 × Int32 × Int32 := (f_X4_advance pe tp tl)
noncomputable def f_X4_readNumber (pk : Int32) (pst : Int32) (pe : Int32) (tp : Nat → Int32) (tl : Int32) (dnums : Nat → Int32) (x : Int32) (lo : Int32) (hi : Int32) : Bool × (Nat → Int32) × Int32 × Int32 × Int32 := (if pk = 2 then (if (f_X4_digits pst pe tp tl) < lo then (false, dnums, pe, pk, pst) else (if (f_X4_digits pst pe tp tl) ≤ hi then (true, (S_X4_readNumber_37 pst pe tp tl dnums x), (S_X4_readNumber_41 pe tp tl).1, (S_X4_readNumber_41 pe tp tl).2.1, (S_X4_readNumber_41 pe tp tl).2.2) else (false, dnums, pe, pk, pst))) else (false, dnums, pe, pk, pst))
set_option maxHeartbeats 4000000 in
set_option maxRecDepth 100000 in
theorem c_X4_readNumber (l : Launch) (D : va_G) (A : Nat → Prop) (w : va_W) (α : Nat → Nat) (k : Nat) (pk : Int32) (pst : Int32) (pe : Int32) (tp : Nat → Int32) (tl : Int32) (dnums : Nat → Int32) (dbNames : Nat → Int32) (dpNames : Nat → Int32) (dfBoats : Nat → Int32) (dnB : Int32) (dnP : Int32) (x : Int32) (lo : Int32) (hi : Int32) (hB0 : Blk w k (cParser D α k pk pst pe tp tl dnums dbNames dpNames dfBoats dnB dnP)) (hy0 : rd3 pst pe tl) : Met l yX4_readNumber (ws_ yX4_readNumber cX4_readNumber 5 (some .boolean)) ({ frames := 2, cells := 0, slots := 0, locals := 44 }) (gPre D A [.ref (α (k)), .int x, .int lo, .int hi] w) (gQ D A (some (.int (b2i (f_X4_readNumber pk pst pe tp tl dnums x lo hi).1))) (fun w1 => Blk w1 k (cParser D α k ((f_X4_readNumber pk pst pe tp tl dnums x lo hi).2.2.2.1) ((f_X4_readNumber pk pst pe tp tl dnums x lo hi).2.2.2.2) ((f_X4_readNumber pk pst pe tp tl dnums x lo hi).2.2.1) tp tl ((f_X4_readNumber pk pst pe tp tl dnums x lo hi).2.1) dbNames dpNames dfBoats dnB dnP) ∧ Same w w1 k 8 ∧ (rd3 (f_X4_readNumber pk pst pe tp tl dnums x lo hi).2.2.2.2 (f_X4_readNumber pk pst pe tp tl dnums x lo hi).2.2.1 tl))) 0 0 A := by
  refine g_met [(0, .ref (α (k))), (1, .int x), (2, .int lo), (3, .int hi)] (plainFor_of_name (by decide)) (Nat.le_of_ble_eq_true rfl) rfl (fun pg en s mi ar below me co ls S hK hP hD hE hS hr hlk hnm hl => ?_)
  have hF : Same w w k 8 := Same.rf
  refine lv_aload_n S.1 S.2.1 dX4_readNumber_0 rfl (lv_at hl 0 rfl) ?_
  refine g_get (v := .int pk) S hK hP (hB0 0 _ rfl) rfl inX4 2 (by decide) qw85 rfl dX4_readNumber_1 ?_
  refine lv_iconst (v := 2) S.1 S.2.1 dX4_readNumber_4 (by decide) ?_
  refine lv_icmp_eq (tgt := 10) S.1 S.2.1 dX4_readNumber_5 (by decide) (fun (c1 : pk = 2) => ?_) (fun (c1 : ¬ pk = 2) => ?_)
  · refine lv_aload_n S.1 S.2.1 dX4_readNumber_10 rfl (lv_at hl 0 rfl) ?_
    refine g_aftR0 (st1 := [.int (f_X4_digits pst pe tp tl)]) (g_V (As := []) (rest := []) S mi_X4_digits qw650 (c_X4_digits l D A w α (k) pk pst pe tp tl dnums dbNames dpNames dfBoats dnB dnP hB0 (by exact hy0.1)) hK hP hD hE hS (hB0 0 _ rfl) rfl rfl rfl hl.1 (Nat.le_of_ble_eq_true rfl) rfl rfl ⟨(Nat.le_of_ble_eq_true rfl), (Nat.le_of_ble_eq_true rfl)⟩ ⟨(Nat.le_of_ble_eq_true rfl), (Nat.le_of_ble_eq_true rfl)⟩ dX4_readNumber_11) hS rfl (fun locs hS => ?_)
    refine lv_istore (lv' := [(4, .int (f_X4_digits pst pe tp tl)), (0, .ref (α (k))), (1, .int x), (2, .int lo), (3, .int hi)]) S.1 S.2.1 dX4_readNumber_14 hl (by decide) rfl (fun ls hl => ?_)
    refine lv_iload S.1 S.2.1 dX4_readNumber_16 (lv_at hl 0 rfl) ?_
    refine lv_iload_n S.1 S.2.1 dX4_readNumber_18 rfl (lv_at hl 3 rfl) ?_
    refine lv_icmp_lt (tgt := 28) S.1 S.2.1 dX4_readNumber_19 (by decide) (fun (c2 : (f_X4_digits pst pe tp tl) < lo) => ?_) (fun (c2 : ¬ (f_X4_digits pst pe tp tl) < lo) => ?_)
    · refine lv_iconst (v := 0) S.1 S.2.1 dX4_readNumber_28 (by decide) ?_
      have hf : (f_X4_readNumber pk pst pe tp tl dnums x lo hi) = (false, dnums, pe, pk, pst) := (if_pos c1).trans (if_pos c2)
      exact g_zret S hr hlk hP hD hS rfl (by rw [hf] <;> rfl) (⟨by rw [hf]; dsimp only; exact hB0, hF, by rw [hf]; (try dsimp only); exact hy0⟩) dX4_readNumber_29
    · refine lv_iload S.1 S.2.1 dX4_readNumber_22 (lv_at hl 0 rfl) ?_
      refine lv_iload_n S.1 S.2.1 dX4_readNumber_24 rfl (lv_at hl 4 rfl) ?_
      refine lv_icmp_le (tgt := 30) S.1 S.2.1 dX4_readNumber_25 (by decide) (fun (c3 : (f_X4_digits pst pe tp tl) ≤ hi) => ?_) (fun (c3 : ¬ (f_X4_digits pst pe tp tl) ≤ hi) => ?_)
      · refine lv_aload_n S.1 S.2.1 dX4_readNumber_30 rfl (lv_at hl 1 rfl) ?_
        refine g_get (v := .ref (α (k + 3))) S hK hP (hB0 0 _ rfl) rfl inX4 1 (by decide) qw83 rfl dX4_readNumber_31 ?_
        refine lv_iload_n S.1 S.2.1 dX4_readNumber_34 rfl (lv_at hl 2 rfl) ?_
        refine lv_iload S.1 S.2.1 dX4_readNumber_35 (lv_at hl 0 rfl) ?_
        have hNm : (f_X7_setNumber dnums x (f_X4_digits pst pe tp tl)) = (S_X4_readNumber_37 pst pe tp tl dnums x) := rfl
        have hCon := (c_X7_setNumber l D A w α (k + 3) dnums dbNames dpNames dfBoats dnB dnP x (f_X4_digits pst pe tp tl) (hB0.sub 3 rfl))
        rw [hNm] at hCon
        refine g_aft0 (st1 := []) (g_V (As := [.int x, .int (f_X4_digits pst pe tp tl)]) (rest := []) S mi_X7_setNumber qw654 hCon hK hP hD hE hS (hB0 3 _ rfl) rfl rfl rfl hl.1 (Nat.le_of_ble_eq_true rfl) rfl rfl ⟨(Nat.le_of_ble_eq_true rfl), (Nat.le_of_ble_eq_true rfl)⟩ ⟨(Nat.le_of_ble_eq_true rfl), (Nat.le_of_ble_eq_true rfl)⟩ dX4_readNumber_37) hS rfl (fun w1 H locs hQ hP hD hS => ?_)
        have hF := hF.call 3 hQ.2 (by decide)
        have hB0 : Blk w1 k (cParser D α k pk pst pe tp tl (S_X4_readNumber_37 pst pe tp tl dnums x) dbNames dpNames dfBoats dnB dnP) := hB0.splice 3 hQ.1 hQ.2 rfl (Nat.le_of_ble_eq_true rfl)
        refine lv_aload_n S.1 S.2.1 dX4_readNumber_40 rfl (lv_at hl 1 rfl) ?_
        have hNm : (f_X4_advance pe tp tl) = (S_X4_readNumber_41 pe tp tl) := rfl
        have hCon := (c_X4_advance l D A w1 α (k) pk pst pe tp tl (S_X4_readNumber_37 pst pe tp tl dnums x) dbNames dpNames dfBoats dnB dnP hB0 (by exact hy0.2))
        rw [hNm] at hCon
        refine g_aft0 (st1 := []) (g_V (As := []) (rest := []) S mi_X4_advance qw609 hCon hK hP hD hE hS (hB0 0 _ rfl) rfl rfl rfl hl.1 (Nat.le_of_ble_eq_true rfl) rfl rfl ⟨(Nat.le_of_ble_eq_true rfl), (Nat.le_of_ble_eq_true rfl)⟩ ⟨(Nat.le_of_ble_eq_true rfl), (Nat.le_of_ble_eq_true rfl)⟩ dX4_readNumber_41) hS rfl (fun w2 H locs hQ hP hD hS => ?_)
        have hF := hF.trans hQ.2.1
        have hB0 : Blk w2 k (cParser D α k ((S_X4_readNumber_41 pe tp tl).2.1) ((S_X4_readNumber_41 pe tp tl).2.2) ((S_X4_readNumber_41 pe tp tl).1) tp tl (S_X4_readNumber_37 pst pe tp tl dnums x) dbNames dpNames dfBoats dnB dnP) := hQ.1
        have hp2_0 : rd3 (S_X4_readNumber_41 pe tp tl).2.2 (S_X4_readNumber_41 pe tp tl).1 tl := hQ.2.2
        refine lv_iconst (v := 1) S.1 S.2.1 dX4_readNumber_44 (by decide) ?_
        have hf : (f_X4_readNumber pk pst pe tp tl dnums x lo hi) = (true, (S_X4_readNumber_37 pst pe tp tl dnums x), (S_X4_readNumber_41 pe tp tl).1, (S_X4_readNumber_41 pe tp tl).2.1, (S_X4_readNumber_41 pe tp tl).2.2) := (if_pos c1).trans ((if_neg c2).trans (if_pos c3))
        exact g_zret S hr hlk hP hD hS rfl (by rw [hf] <;> rfl) (⟨by rw [hf]; dsimp only; exact hB0, hF, by rw [hf]; (try dsimp only); exact hp2_0⟩) dX4_readNumber_45
      · refine lv_iconst (v := 0) S.1 S.2.1 dX4_readNumber_28 (by decide) ?_
        have hf : (f_X4_readNumber pk pst pe tp tl dnums x lo hi) = (false, dnums, pe, pk, pst) := (if_pos c1).trans ((if_neg c2).trans (if_neg c3))
        exact g_zret S hr hlk hP hD hS rfl (by rw [hf] <;> rfl) (⟨by rw [hf]; dsimp only; exact hB0, hF, by rw [hf]; (try dsimp only); exact hy0⟩) dX4_readNumber_29
  · refine lv_iconst (v := 0) S.1 S.2.1 dX4_readNumber_8 (by decide) ?_
    have hf : (f_X4_readNumber pk pst pe tp tl dnums x lo hi) = (false, dnums, pe, pk, pst) := if_neg c1
    exact g_zret S hr hlk hP hD hS rfl (by rw [hf] <;> rfl) (⟨by rw [hf]; dsimp only; exact hB0, hF, by rw [hf]; (try dsimp only); exact hy0⟩) dX4_readNumber_9
