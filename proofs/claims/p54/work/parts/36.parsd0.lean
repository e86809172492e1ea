noncomputable def S_X4_skipKeyword_11 (pe : Int32) (tp : Nat → Int32) (tl : Int32) : Int32 × Int32 × Int32 := (f_X4_advance pe tp tl)
noncomputable def f_X4_skipKeyword (pk : Int32) (pst : Int32) (pe : Int32) (tp : Nat → Int32) (tl : Int32) (x : Nat) : Bool × Int32 × Int32 × Int32 := (bif (f_X4_isKeyword pk pst pe tp tl x) then (true, (S_X4_skipKeyword_11 pe tp tl).1, (S_X4_skipKeyword_11 pe tp tl).2.1, (S_X4_skipKeyword_11 pe tp tl).2.2) else (false, pe, pk, pst))
set_option maxHeartbeats 4000000 in
set_option maxRecDepth 100000 in
theorem c_X4_skipKeyword (l : Launch) (D : va_G) (A : Nat → Prop) (w : va_W) (α : Nat → Nat) (k : Nat) (pk : Int32) (pst : Int32) (pe : Int32) (tp : Nat → Int32) (tl : Int32) (dnums : Nat → Int32) (dbNames : Nat → Int32) (dpNames : Nat → Int32) (dfBoats : Nat → Int32) (dnB : Int32) (dnP : Int32) (x : Nat) (hB0 : Blk w k (cParser D α k pk pst pe tp tl dnums dbNames dpNames dfBoats dnB dnP)) (hy0 : rd3 pst pe tl) (hy1 : x < strLen.length) : Met l yX4_skipKeyword (ws_ yX4_skipKeyword cX4_skipKeyword 2 (some .boolean)) ({ frames := 6, cells := 0, slots := 0, locals := 128 }) (gPre D A [.ref (α (k)), .ref (D.2 200 x)] w) (gQ D A (some (.int (b2i (f_X4_skipKeyword pk pst pe tp tl x).1))) (fun w1 => Blk w1 k (cParser D α k ((f_X4_skipKeyword pk pst pe tp tl x).2.2.1) ((f_X4_skipKeyword pk pst pe tp tl x).2.2.2) ((f_X4_skipKeyword pk pst pe tp tl x).2.1) tp tl dnums dbNames dpNames dfBoats dnB dnP) ∧ Same w w1 k 8 ∧ (rd3 (f_X4_skipKeyword pk pst pe tp tl x).2.2.2 (f_X4_skipKeyword pk pst pe tp tl x).2.1 tl))) 0 0 A := by
  refine g_met [(0, .ref (α (k))), (1, .ref (D.2 200 x))] (plainFor_of_name (by decide)) (Nat.le_of_ble_eq_true rfl) rfl (fun pg en s mi ar below me co ls S hK hP hD hE hS hr hlk hnm hl => ?_)
  have hF : Same w w k 8 := Same.rf
  refine lv_aload_n S.1 S.2.1 dX4_skipKeyword_0 rfl (lv_at hl 0 rfl) ?_
  refine lv_aload_n S.1 S.2.1 dX4_skipKeyword_1 rfl (lv_at hl 1 rfl) ?_
  refine g_aftR0 (st1 := [.int (b2i (f_X4_isKeyword pk pst pe tp tl x))]) (g_V (As := [.ref (D.2 200 x)]) (rest := []) S mi_X4_isKeyword qw636 (c_X4_isKeyword l D A w α (k) pk pst pe tp tl dnums dbNames dpNames dfBoats dnB dnP x hB0 (hy1)) hK hP hD hE hS (hB0 0 _ rfl) rfl rfl rfl hl.1 (Nat.le_of_ble_eq_true rfl) rfl rfl ⟨(Nat.le_of_ble_eq_true rfl), (Nat.le_of_ble_eq_true rfl)⟩ ⟨(Nat.le_of_ble_eq_true rfl), (Nat.le_of_ble_eq_true rfl)⟩ dX4_skipKeyword_2) hS rfl (fun locs hS => ?_)
  refine g_bifne (b := (f_X4_isKeyword pk pst pe tp tl x)) (tgt := 10) S dX4_skipKeyword_5 (by decide) (fun (c1 : (f_X4_isKeyword pk pst pe tp tl x) = true) => ?_) (fun (c1 : (f_X4_isKeyword pk pst pe tp tl x) = false) => ?_)
  · refine lv_aload_n S.1 S.2.1 dX4_skipKeyword_10 rfl (lv_at hl 0 rfl) ?_
    have hNm : (f_X4_advance pe tp tl) = (S_X4_skipKeyword_11 pe tp tl) := rfl
    have hCon := (c_X4_advance l D A w α (k) pk pst pe tp tl dnums dbNames dpNames dfBoats dnB dnP hB0 (by exact hy0.2))
    rw [hNm] at hCon
    refine g_aft0 (st1 := []) (g_V (As := []) (rest := []) S mi_X4_advance qw609 hCon hK hP hD hE hS (hB0 0 _ rfl) rfl rfl rfl hl.1 (Nat.le_of_ble_eq_true rfl) rfl rfl ⟨(Nat.le_of_ble_eq_true rfl), (Nat.le_of_ble_eq_true rfl)⟩ ⟨(Nat.le_of_ble_eq_true rfl), (Nat.le_of_ble_eq_true rfl)⟩ dX4_skipKeyword_11) hS rfl (fun w1 H locs hQ hP hD hS => ?_)
    have hF := hF.trans hQ.2.1
    have hB0 : Blk w1 k (cParser D α k ((S_X4_skipKeyword_11 pe tp tl).2.1) ((S_X4_skipKeyword_11 pe tp tl).2.2) ((S_X4_skipKeyword_11 pe tp tl).1) tp tl dnums dbNames dpNames dfBoats dnB dnP) := hQ.1
    have hp1_0 : rd3 (S_X4_skipKeyword_11 pe tp tl).2.2 (S_X4_skipKeyword_11 pe tp tl).1 tl := hQ.2.2
    refine lv_iconst (v := 1) S.1 S.2.1 dX4_skipKeyword_14 (by decide) ?_
    have hf : (f_X4_skipKeyword pk pst pe tp tl x) = (true, (S_X4_skipKeyword_11 pe tp tl).1, (S_X4_skipKeyword_11 pe tp tl).2.1, (S_X4_skipKeyword_11 pe tp tl).2.2) := cd_t c1
    exact g_zret S hr hlk hP hD hS rfl (by rw [hf] <;> rfl) (⟨by rw [hf]; dsimp only; exact hB0, hF, by rw [hf]; (try dsimp only); exact hp1_0⟩) dX4_skipKeyword_15
  · refine lv_iconst (v := 0) S.1 S.2.1 dX4_skipKeyword_8 (by decide) ?_
    have hf : (f_X4_skipKeyword pk pst pe tp tl x) = (false, pe, pk, pst) := cd_f c1
    exact g_zret S hr hlk hP hD hS rfl (by rw [hf] <;> rfl) (⟨by rw [hf]; dsimp only; exact hB0, hF, by rw [hf]; (try dsimp only); exact hy0⟩) dX4_skipKeyword_9
