noncomputable def f_X4_isKeyword (pk : Int32) (pst : Int32) (pe : Int32) (tp : Nat → Int32) (tl : Int32) (x : Nat) : Bool := (if pk = 1 then (bif (f_X4_reads pst pe tp tl x) then true else false) else false)
set_option maxHeartbeats 4000000 in
set_option maxRecDepth 100000 in
theorem c_X4_isKeyword (l : Launch) (D : va_G) (A : Nat → Prop) (w : va_W) (α : Nat → Nat) (k : Nat) (pk : Int32) (pst : Int32) (pe : Int32) (tp : Nat → Int32) (tl : Int32) (dnums : Nat → Int32) (dbNames : Nat → Int32) (dpNames : Nat → Int32) (dfBoats : Nat → Int32) (dnB : Int32) (dnP : Int32) (x : Nat) (hB0 : Blk w k (cParser D α k pk pst pe tp tl dnums dbNames dpNames dfBoats dnB dnP)) (hy0 : x < strLen.length) : Met l yX4_isKeyword (ws_ yX4_isKeyword cX4_isKeyword 2 (some .boolean)) ({ frames := 5, cells := 0, slots := 0, locals := 107 }) (gPre D A [.ref (α (k)), .ref (D.2 200 x)] w) (gR (some (.int (b2i (f_X4_isKeyword pk pst pe tp tl x))))) 0 0 A := by
  refine g_met [(0, .ref (α (k))), (1, .ref (D.2 200 x))] (plainFor_of_name (by decide)) (Nat.le_of_ble_eq_true rfl) rfl (fun pg en s mi ar below me co ls S hK hP hD hE hS hr hlk hnm hl => ?_)
  refine lv_aload_n S.1 S.2.1 dX4_isKeyword_0 rfl (lv_at hl 0 rfl) ?_
  refine g_get (v := .int pk) S hK hP (hB0 0 _ rfl) rfl inX4 2 (by decide) qw85 rfl dX4_isKeyword_1 ?_
  refine lv_iconst (v := 1) S.1 S.2.1 dX4_isKeyword_4 (by decide) ?_
  refine lv_icmp_ne (tgt := 20) S.1 S.2.1 dX4_isKeyword_5 (by decide) (fun (c1 : ¬ pk = 1) => ?_) (fun (c1 : pk = 1) => ?_)
  · refine lv_iconst (v := 0) S.1 S.2.1 dX4_isKeyword_20 (by decide) ?_
    have hf : (f_X4_isKeyword pk pst pe tp tl x) = false := if_neg c1
    exact g_zretR S hr hlk hS rfl (by rw [hf] <;> rfl) dX4_isKeyword_21
  · refine lv_aload_n S.1 S.2.1 dX4_isKeyword_8 rfl (lv_at hl 0 rfl) ?_
    refine lv_aload_n S.1 S.2.1 dX4_isKeyword_9 rfl (lv_at hl 1 rfl) ?_
    refine g_aftR0 (st1 := [.int (b2i (f_X4_reads pst pe tp tl x))]) (g_V (As := [.ref (D.2 200 x)]) (rest := []) S mi_X4_reads qw640 (c_X4_reads l D A w α (k) pk pst pe tp tl dnums dbNames dpNames dfBoats dnB dnP x hB0 (hy0)) hK hP hD hE hS (hB0 0 _ rfl) rfl rfl rfl hl.1 (Nat.le_of_ble_eq_true rfl) rfl rfl ⟨(Nat.le_of_ble_eq_true rfl), (Nat.le_of_ble_eq_true rfl)⟩ ⟨(Nat.le_of_ble_eq_true rfl), (Nat.le_of_ble_eq_true rfl)⟩ dX4_isKeyword_10) hS rfl (fun locs hS => ?_)
    refine g_bifeq (b := (f_X4_reads pst pe tp tl x)) (tgt := 20) S dX4_isKeyword_13 (by decide) (fun (c2 : (f_X4_reads pst pe tp tl x) = false) => ?_) (fun (c2 : (f_X4_reads pst pe tp tl x) = true) => ?_)
    · refine lv_iconst (v := 0) S.1 S.2.1 dX4_isKeyword_20 (by decide) ?_
      have hf : (f_X4_isKeyword pk pst pe tp tl x) = false := (if_pos c1).trans (cd_f c2)
      exact g_zretR S hr hlk hS rfl (by rw [hf] <;> rfl) dX4_isKeyword_21
    · refine lv_iconst (v := 1) S.1 S.2.1 dX4_isKeyword_16 (by decide) ?_
      refine lv_goto (tgt := 21) S.1 S.2.1 dX4_isKeyword_17 (by decide) ?_
      have hf : (f_X4_isKeyword pk pst pe tp tl x) = true := (if_pos c1).trans (cd_t c2)
      exact g_zretR S hr hlk hS rfl (by rw [hf] <;> rfl) dX4_isKeyword_21
