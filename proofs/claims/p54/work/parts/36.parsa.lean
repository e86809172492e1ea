
/-- the parser's places in its tape -/
def rd3 (a b c : Int32) : Prop := rd_ a b ∧ rd_ b c
def rdm (n : Nat) (a b c : Int32) : Prop := rd_ a b ∧ rdn n b c
theorem rdm_0 {a b c : Int32} : ¬ rdm 0 a b c := fun h => rdn_0 h.2
theorem rd_rf {a b : Int32} (h : rd_ a b) : rd_ a a := by
  obtain ⟨i, j, h1, h2, h3, h4⟩ := h
  exact ⟨i, i, h1, h1, Nat.le_refl _, by omega⟩
theorem rdm_of {a c : Int32} (h : rd_ a c) : rdm 801 a a c := ⟨rd_rf h, rdn_of h⟩
theorem rd_up {a b c : Int32} (h : rd_ a b) (h2 : rd_ (b + 1) c) : rd_ a (b + 1) := by
  obtain ⟨i, j, h3, h4, h5, h6⟩ := h
  obtain ⟨i2, j2, h7, h8, h9, h10⟩ := h2
  refine ⟨i, i2, h3, h7, ?_, by omega⟩
  rw [h4, ← nI_succ] at h7
  have := congrArg Int32.toNatClampNeg h7
  rw [nI_clamp (by omega), nI_clamp (by omega)] at this
  omega
theorem rdm_s {n : Nat} {a b c : Int32} (h : rdm (n + 1) a b c) (q : ¬ c ≤ b) : rdm n a (b + 1) c := by
  have h2 := rdn_s h.2 q
  exact ⟨rd_up h.1 (rdn_rd h2), h2⟩
theorem rdm_rd {n : Nat} {a b c : Int32} (h : rdm n a b c) : rd3 a b c := ⟨h.1, rdn_rd h.2⟩
theorem rd3_e {a c : Int32} (h : rd_ a c) : rd3 a a c := ⟨rd_rf h, h⟩
theorem rd3_s {a c : Int32} (h : rd_ a c) (q : a < c) : rd3 a (a + 1) c := by
  have h2 := rd_s h (Int32.not_le.mpr q)
  exact ⟨rd_up (rd_rf h) h2, h2⟩
theorem ofs_in {a b : Int32} {n j : Nat} (h : rd_ a b) (hn : n + (j + 1) = b.toNatClampNeg - a.toNatClampNeg) : ¬ b ≤ ofs_ a n := by
  obtain ⟨i, k, rfl, rfl, h3, h4⟩ := h
  rw [nI_clamp (by omega), nI_clamp (by omega)] at hn
  rw [ofs_nI, nI_leI (by omega) (by omega)]
  omega
theorem ofs_out {a b : Int32} (h : rd_ a b) : ¬ ¬ b ≤ ofs_ a (b.toNatClampNeg - a.toNatClampNeg) := by
  obtain ⟨i, k, rfl, rfl, h3, h4⟩ := h
  rw [nI_clamp (by omega), nI_clamp (by omega), ofs_nI, nI_leI (by omega) (by omega)]
  omega
theorem le_in {a b : Int32} {n j : Nat} (h : rd_ a b) (hn : n + (j + 1) = min (b.toNatClampNeg - a.toNatClampNeg) 6) : ¬ b ≤ ofs_ a n := by
  obtain ⟨i, k, rfl, rfl, h3, h4⟩ := h
  rw [nI_clamp (by omega), nI_clamp (by omega)] at hn
  rw [ofs_nI, nI_leI (by omega) (by omega)]
  omega
theorem le_out {a b : Int32} (h : rd_ a b) (h2 : ¬ b ≤ ofs_ a (min (b.toNatClampNeg - a.toNatClampNeg) 6)) : min (b.toNatClampNeg - a.toNatClampNeg) 6 = 6 := by
  obtain ⟨i, k, rfl, rfl, h3, h4⟩ := h
  rw [nI_clamp (by omega), nI_clamp (by omega), ofs_nI, nI_leI (by omega) (by omega)] at h2
  rw [nI_clamp (by omega), nI_clamp (by omega)]
  omega
def f_X4_isSpace (x : Int32) : Bool := (if x = 32 then true else (if x = 10 then true else false))
set_option maxHeartbeats 4000000 in
set_option maxRecDepth 100000 in
theorem c_X4_isSpace (l : Launch) (D : va_G) (A : Nat → Prop) (w : va_W) (α : Nat → Nat) (x : Int32) : Met l yX4_isSpace (ws_ yX4_isSpace cX4_isSpace 1 (some .boolean)) ({ frames := 0, cells := 0, slots := 0, locals := 0 }) (gPre D A [.int x] w) (gR (some (.int (b2i (f_X4_isSpace x))))) 0 0 A := by
  refine g_met [(0, .int x)] (plainFor_of_name (by decide)) (Nat.le_of_ble_eq_true rfl) rfl (fun pg en s mi ar below me co ls S hK hP hD hE hS hr hlk hnm hl => ?_)
  refine lv_iload_n S.1 S.2.1 dX4_isSpace_0 rfl (lv_at hl 0 rfl) ?_
  refine lv_bipush (v := 32) S.1 S.2.1 dX4_isSpace_1 (by decide) ?_
  refine lv_icmp_eq (tgt := 12) S.1 S.2.1 dX4_isSpace_3 (by decide) (fun (c1 : x = 32) => ?_) (fun (c1 : ¬ x = 32) => ?_)
  · refine lv_iconst (v := 1) S.1 S.2.1 dX4_isSpace_12 (by decide) ?_
    refine lv_goto (tgt := 17) S.1 S.2.1 dX4_isSpace_13 (by decide) ?_
    have hf : (f_X4_isSpace x) = true := if_pos c1
    exact g_zretR S hr hlk hS rfl (by rw [hf] <;> rfl) dX4_isSpace_17
  · refine lv_iload_n S.1 S.2.1 dX4_isSpace_6 rfl (lv_at hl 0 rfl) ?_
    refine lv_bipush (v := 10) S.1 S.2.1 dX4_isSpace_7 (by decide) ?_
    refine lv_icmp_ne (tgt := 16) S.1 S.2.1 dX4_isSpace_9 (by decide) (fun (c2 : ¬ x = 10) => ?_) (fun (c2 : x = 10) => ?_)
    · refine lv_iconst (v := 0) S.1 S.2.1 dX4_isSpace_16 (by decide) ?_
      have hf : (f_X4_isSpace x) = false := (if_neg c1).trans (if_neg c2)
      exact g_zretR S hr hlk hS rfl (by rw [hf] <;> rfl) dX4_isSpace_17
    · refine lv_iconst (v := 1) S.1 S.2.1 dX4_isSpace_12 (by decide) ?_
      refine lv_goto (tgt := 17) S.1 S.2.1 dX4_isSpace_13 (by decide) ?_
      have hf : (f_X4_isSpace x) = true := (if_neg c1).trans (if_pos c2)
      exact g_zretR S hr hlk hS rfl (by rw [hf] <;> rfl) dX4_isSpace_17
def f_X4_isLetter (x : Int32) : Bool := (if x < 97 then false else (if 122 < x then false else true))
set_option maxHeartbeats 4000000 in
set_option maxRecDepth 100000 in
theorem c_X4_isLetter (l : Launch) (D : va_G) (A : Nat → Prop) (w : va_W) (α : Nat → Nat) (x : Int32) : Met l yX4_isLetter (ws_ yX4_isLetter cX4_isLetter 1 (some .boolean)) ({ frames := 0, cells := 0, slots := 0, locals := 0 }) (gPre D A [.int x] w) (gR (some (.int (b2i (f_X4_isLetter x))))) 0 0 A := by
  refine g_met [(0, .int x)] (plainFor_of_name (by decide)) (Nat.le_of_ble_eq_true rfl) rfl (fun pg en s mi ar below me co ls S hK hP hD hE hS hr hlk hnm hl => ?_)
  refine lv_iload_n S.1 S.2.1 dX4_isLetter_0 rfl (lv_at hl 0 rfl) ?_
  refine lv_bipush (v := 97) S.1 S.2.1 dX4_isLetter_1 (by decide) ?_
  refine lv_icmp_lt (tgt := 16) S.1 S.2.1 dX4_isLetter_3 (by decide) (fun (c1 : x < 97) => ?_) (fun (c1 : ¬ x < 97) => ?_)
  · refine lv_iconst (v := 0) S.1 S.2.1 dX4_isLetter_16 (by decide) ?_
    have hf : (f_X4_isLetter x) = false := if_pos c1
    exact g_zretR S hr hlk hS rfl (by rw [hf] <;> rfl) dX4_isLetter_17
  · refine lv_iload_n S.1 S.2.1 dX4_isLetter_6 rfl (lv_at hl 0 rfl) ?_
    refine lv_bipush (v := 122) S.1 S.2.1 dX4_isLetter_7 (by decide) ?_
    refine lv_icmp_gt (tgt := 16) S.1 S.2.1 dX4_isLetter_9 (by decide) (fun (c2 : 122 < x) => ?_) (fun (c2 : ¬ 122 < x) => ?_)
    · refine lv_iconst (v := 0) S.1 S.2.1 dX4_isLetter_16 (by decide) ?_
      have hf : (f_X4_isLetter x) = false := (if_neg c1).trans (if_pos c2)
      exact g_zretR S hr hlk hS rfl (by rw [hf] <;> rfl) dX4_isLetter_17
    · refine lv_iconst (v := 1) S.1 S.2.1 dX4_isLetter_12 (by decide) ?_
      refine lv_goto (tgt := 17) S.1 S.2.1 dX4_isLetter_13 (by decide) ?_
      have hf : (f_X4_isLetter x) = true := (if_neg c1).trans (if_neg c2)
      exact g_zretR S hr hlk hS rfl (by rw [hf] <;> rfl) dX4_isLetter_17
def f_X4_isDigit (x : Int32) : Bool := (if x < 48 then false else (if 57 < x then false else true))
set_option maxHeartbeats 4000000 in
set_option maxRecDepth 100000 in
theorem c_X4_isDigit (l : Launch) (D : va_G) (A : Nat → Prop) (w : va_W) (α : Nat → Nat) (x : Int32) : Met l yX4_isDigit (ws_ yX4_isDigit cX4_isDigit 1 (some .boolean)) ({ frames := 0, cells := 0, slots := 0, locals := 0 }) (gPre D A [.int x] w) (gR (some (.int (b2i (f_X4_isDigit x))))) 0 0 A := by
  refine g_met [(0, .int x)] (plainFor_of_name (by decide)) (Nat.le_of_ble_eq_true rfl) rfl (fun pg en s mi ar below me co ls S hK hP hD hE hS hr hlk hnm hl => ?_)
  refine lv_iload_n S.1 S.2.1 dX4_isDigit_0 rfl (lv_at hl 0 rfl) ?_
  refine lv_bipush (v := 48) S.1 S.2.1 dX4_isDigit_1 (by decide) ?_
  refine lv_icmp_lt (tgt := 16) S.1 S.2.1 dX4_isDigit_3 (by decide) (fun (c1 : x < 48) => ?_) (fun (c1 : ¬ x < 48) => ?_)
  · refine lv_iconst (v := 0) S.1 S.2.1 dX4_isDigit_16 (by decide) ?_
    have hf : (f_X4_isDigit x) = false := if_pos c1
    exact g_zretR S hr hlk hS rfl (by rw [hf] <;> rfl) dX4_isDigit_17
  · refine lv_iload_n S.1 S.2.1 dX4_isDigit_6 rfl (lv_at hl 0 rfl) ?_
    refine lv_bipush (v := 57) S.1 S.2.1 dX4_isDigit_7 (by decide) ?_
    refine lv_icmp_gt (tgt := 16) S.1 S.2.1 dX4_isDigit_9 (by decide) (fun (c2 : 57 < x) => ?_) (fun (c2 : ¬ 57 < x) => ?_)
    · refine lv_iconst (v := 0) S.1 S.2.1 dX4_isDigit_16 (by decide) ?_
      have hf : (f_X4_isDigit x) = false := (if_neg c1).trans (if_pos c2)
      exact g_zretR S hr hlk hS rfl (by rw [hf] <;> rfl) dX4_isDigit_17
    · refine lv_iconst (v := 1) S.1 S.2.1 dX4_isDigit_12 (by decide) ?_
      refine lv_goto (tgt := 17) S.1 S.2.1 dX4_isDigit_13 (by decide) ?_
      have hf : (f_X4_isDigit x) = true := (if_neg c1).trans (if_neg c2)
      exact g_zretR S hr hlk hS rfl (by rw [hf] <;> rfl) dX4_isDigit_17
