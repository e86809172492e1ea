def h_latest (next : Int32) : Int32 := if next ≤ 0 then 7 else next - 1
def f_X3_bringBack (steps next : Int32) (hs : Nat → StT) (t : StT) : Bool × Int32 × Int32 × StT :=
  if steps < 1 then (false, steps, next, t) else bif f_X11_isIn (h_latest next) 8 then (true, steps - 1, h_latest next, hs (h_latest next).toNatClampNeg) else (false, steps, next, t)
set_option maxHeartbeats 4000000 in
set_option maxRecDepth 100000 in
theorem c_X3_bringBack (l : Launch) (D : va_G) (A : Nat → Prop) (w : va_W) (α : Nat → Nat) (k : Nat) (steps next : Int32) (hs : Nat → StT) (k2 : Nat) (t : StT) (hH : HP D α w k steps next hs) (hB : Blk w k2 (cSt D α k2 t)) (hd : k2 + 19 ≤ k ∨ k + 154 ≤ k2) : Met l yX3_bringBack (ws_ yX3_bringBack cX3_bringBack 3 (some .boolean)) ({ frames := 4, cells := 0, slots := 0, locals := 103 } : Room) (gPre D A [.ref (α k), .ref (α k2)] w) (gQ D A (some (.int (b2i (f_X3_bringBack steps next hs t).1))) (fun w1 => HP D α w1 k (f_X3_bringBack steps next hs t).2.1 (f_X3_bringBack steps next hs t).2.2.1 hs ∧ Blk w1 k2 (cSt D α k2 (f_X3_bringBack steps next hs t).2.2.2) ∧ w1.length = w.length ∧ ∀ j : Nat, (j < k ∨ k + 154 ≤ j) → (j < k2 ∨ k2 + 19 ≤ j) → w1[j]? = w[j]?)) 0 0 A := by
  refine g_met [(0, .ref (α k)), (1, .ref (α k2))] (plainFor_of_name (by decide)) (Nat.le_of_ble_eq_true rfl) rfl (fun pg en s mi ar below me co ls S hK hP hD hE hS hr hlk hnm hl => ?_)
  refine lv_aload_n S.1 S.2.1 dX3_bringBack_0 rfl (lv_at hl 0 rfl) ?_
  refine g_get (v := .int next) S hK hP (hH.1 0 _ rfl) rfl inX3 2 (by decide) qw275 rfl dX3_bringBack_1 ?_
  have tail : ∀ (v : Int32) (ls : Array Slot), h_latest next = v → lv_has ls 3 [(0, .ref (α k)), (1, .ref (α k2))] → W pg l en ({ frames := 4, cells := 0, slots := 0, locals := 103 } : Room) s mi ar below me co s.heap [] 0 0 (MQ below (gQ D A (some (.int (b2i (f_X3_bringBack steps next hs t).1))) (fun w1 => HP D α w1 k (f_X3_bringBack steps next hs t).2.1 (f_X3_bringBack steps next hs t).2.2.1 hs ∧ Blk w1 k2 (cSt D α k2 (f_X3_bringBack steps next hs t).2.2.2) ∧ w1.length = w.length ∧ ∀ j : Nat, (j < k ∨ k + 154 ≤ j) → (j < k2 ∨ k2 + 19 ≤ j) → w1[j]? = w[j]?)) ar s 0 0 A) (F0 mi 23 ls [.int v]) := by
    intro v ls hv hl
    subst hv
    refine lv_istore_n (lv' := [(2, .int (h_latest next)), (0, .ref (α k)), (1, .ref (α k2))]) S.1 S.2.1 dX3_bringBack_23 rfl hl (by decide) rfl (fun ls hl => ?_)
    refine lv_aload_n S.1 S.2.1 dX3_bringBack_24 rfl (lv_at hl 1 rfl) ?_
    refine g_get (v := .int steps) S hK hP (hH.1 0 _ rfl) rfl inX3 1 (by decide) qw274 rfl dX3_bringBack_25 ?_
    refine lv_iconst (v := 1) S.1 S.2.1 dX3_bringBack_28 (by decide) ?_
    have no : ∀ ls : Array Slot, f_X3_bringBack steps next hs t = (false, steps, next, t) → ∀ locs, va_S A s.heap s.heap locs → W pg l en ({ frames := 4, cells := 0, slots := 0, locals := 103 } : Room) s mi ar below me co s.heap locs 0 0 (MQ below (gQ D A (some (.int (b2i (f_X3_bringBack steps next hs t).1))) (fun w1 => HP D α w1 k (f_X3_bringBack steps next hs t).2.1 (f_X3_bringBack steps next hs t).2.2.1 hs ∧ Blk w1 k2 (cSt D α k2 (f_X3_bringBack steps next hs t).2.2.2) ∧ w1.length = w.length ∧ ∀ j : Nat, (j < k ∨ k + 154 ≤ j) → (j < k2 ∨ k2 + 19 ≤ j) → w1[j]? = w[j]?)) ar s 0 0 A) (F0 mi 44 ls []) := by
      intro ls hf locs hS
      refine lv_iconst (v := 0) S.1 S.2.1 dX3_bringBack_44 (by decide) ?_
      refine g_zret S hr hlk hP hD hS rfl (by rw [hf] <;> rfl) ?_ dX3_bringBack_45
      rw [hf]
      exact ⟨hH, hB, rfl, fun _ _ _ => rfl⟩
    refine lv_icmp_lt (tgt := 44) S.1 S.2.1 dX3_bringBack_29 (by decide) (fun (c1 : steps < 1) => ?_) (fun (c1 : ¬ steps < 1) => ?_)
    · exact no _ (if_pos c1) _ hS
    · refine lv_iload_n S.1 S.2.1 dX3_bringBack_32 rfl (lv_at hl 0 rfl) ?_
      refine lv_aload_n S.1 S.2.1 dX3_bringBack_33 rfl (lv_at hl 1 rfl) ?_
      refine g_get (v := rf α (k + 1)) S hK hP (hH.1 0 _ rfl) rfl inX3 0 (by decide) qw273 rfl dX3_bringBack_34 ?_
      refine g_alen (v := 8) S hK hP (hH.1 1 _ rfl) 3 rfl rfl dX3_bringBack_37 ?_
      refine g_aftR0 (st1 := [.int (b2i (f_X11_isIn (h_latest next) 8))]) (g_SN (As := [.int (h_latest next), .int 8]) (rest := []) S ms_X11_isIn qn_RX3_25 (c_X11_isIn l D A w α (h_latest next) 8) hK hP hD hE hS rfl rfl hl.1 (Nat.le_of_ble_eq_true rfl) rfl rfl ⟨(Nat.le_of_ble_eq_true rfl), (Nat.le_of_ble_eq_true rfl)⟩ ⟨(Nat.le_of_ble_eq_true rfl), (Nat.le_of_ble_eq_true rfl)⟩ dX3_bringBack_38) hS rfl (fun locs hS => ?_)
      refine g_bifne (b := f_X11_isIn (h_latest next) 8) (tgt := 46) S dX3_bringBack_41 (by decide) (fun c2 => ?_) (fun c2 => ?_)
      · have hin : vp_in (h_latest next) 8 := isIn_vin (n := 8) (by decide) c2
        obtain ⟨-, hlt⟩ := vin_nI hin
        have hf : f_X3_bringBack steps next hs t = (true, steps - 1, h_latest next, hs (h_latest next).toNatClampNeg) := (if_neg c1).trans (cd_t c2)
        refine lv_aload_n S.1 S.2.1 dX3_bringBack_46 rfl (lv_at hl 2 rfl) ?_
        refine lv_aload_n S.1 S.2.1 dX3_bringBack_47 rfl (lv_at hl 1 rfl) ?_
        refine g_get (v := rf α (k + 1)) S hK hP (hH.1 0 _ rfl) rfl inX3 0 (by decide) qw273 rfl dX3_bringBack_48 ?_
        refine lv_iload_n S.1 S.2.1 dX3_bringBack_51 rfl (lv_at hl 0 rfl) ?_
        refine va_aldq S.1 S.2.1 hK hP (k + 1) 3 (hH.1 1 _ rfl) rfl hin dX3_bringBack_52 ?_
        refine g_aft0 (st1 := []) (g_V (As := [.ref (α (k + 2 + 19 * (h_latest next).toNatClampNeg))]) (rest := []) (b := α k2) S mi_X8_copyFrom qw404 (c_copySt l D A w α k2 (k + 2 + 19 * (h_latest next).toNatClampNeg) t _ hB (hH.2 _ hlt) (by omega)) hK hP hD hE hS (hB 0 _ rfl) rfl rfl rfl hl.1 (Nat.le_of_ble_eq_true rfl) rfl rfl ⟨(Nat.le_of_ble_eq_true rfl), (Nat.le_of_ble_eq_true rfl)⟩ ⟨(Nat.le_of_ble_eq_true rfl), (Nat.le_of_ble_eq_true rfl)⟩ dX3_bringBack_53) hS rfl (fun w1 H locs hQ hP hD hS => ?_)
        have hob := hH.1.other hQ.2 (show k + 2 ≤ k2 ∨ k2 + 19 ≤ k by omega)
        have hst := hH.2.other hQ.2 (show k + 2 + 19 * 8 ≤ k2 ∨ k2 + 19 ≤ k + 2 by omega)
        have hbt := hQ.1
        refine lv_aload_n S.1 S.2.1 dX3_bringBack_56 rfl (lv_at hl 1 rfl) ?_
        refine lv_iload_n S.1 S.2.1 dX3_bringBack_57 rfl (lv_at hl 0 rfl) ?_
        refine g_put S hK hP hD hS (hob 0 _ rfl) rfl inX3 tyX3_ok nmX3 2 (by decide) qw275 rfl rfl rfl (Nat.le_of_ble_eq_true rfl) dX3_bringBack_58 (fun w2 H locs hw hP hD hS => ?_)
        have hF2 := Same.set (Same.rf (n := 1)) 0 hw (by decide)
        have hst := hst.other hF2 (Or.inr (by omega))
        have hbt := hbt.other hF2 (show k2 + 19 ≤ k ∨ k + 1 ≤ k2 by omega)
        have hob := hob.set 0 hw (Nat.le_of_ble_eq_true rfl) rfl
        refine lv_aload_n S.1 S.2.1 dX3_bringBack_61 rfl (lv_at hl 1 rfl) ?_
        refine lv_dup S.1 S.2.1 dX3_bringBack_62 rfl ?_
        refine g_get (v := .int steps) S hK hP (hob 0 _ rfl) rfl inX3 1 (by decide) qw274 rfl dX3_bringBack_63 ?_
        refine lv_iconst (v := 1) S.1 S.2.1 dX3_bringBack_66 (by decide) ?_
        refine lv_isub S.1 S.2.1 dX3_bringBack_67 ?_
        refine g_put S hK hP hD hS (hob 0 _ rfl) rfl inX3 tyX3_ok nmX3 1 (by decide) qw274 rfl rfl rfl (Nat.le_of_ble_eq_true rfl) dX3_bringBack_68 (fun w3 H locs hw hP hD hS => ?_)
        have hF3 := Same.set (Same.rf (n := 1)) 0 hw (by decide)
        have hst := hst.other hF3 (Or.inr (by omega))
        have hbt := hbt.other hF3 (show k2 + 19 ≤ k ∨ k + 1 ≤ k2 by omega)
        have hob := hob.set 0 hw (Nat.le_of_ble_eq_true rfl) rfl
        refine lv_iconst (v := 1) S.1 S.2.1 dX3_bringBack_71 (by decide) ?_
        refine g_zret S hr hlk hP hD hS rfl (by rw [hf] <;> rfl) ?_ dX3_bringBack_72
        rw [hf]
        dsimp only
        refine ⟨⟨hob, hst⟩, hbt, ?_, fun j h1 h2 => ?_⟩
        · rw [hF3.1, hF2.1, hQ.2.1]
        · rw [hF3.2 j (by omega), hF2.2 j (by omega), hQ.2.2 j (by omega)]
      · exact no _ ((if_neg c1).trans (cd_f c2)) _ hS
  refine lv_if_le (tgt := 16) S.1 S.2.1 dX3_bringBack_4 (by decide) (fun (c0 : next ≤ 0) => ?_) (fun (c0 : ¬ next ≤ 0) => ?_)
  · refine lv_aload_n S.1 S.2.1 dX3_bringBack_16 rfl (lv_at hl 0 rfl) ?_
    refine g_get (v := rf α (k + 1)) S hK hP (hH.1 0 _ rfl) rfl inX3 0 (by decide) qw273 rfl dX3_bringBack_17 ?_
    refine g_alen (v := 8) S hK hP (hH.1 1 _ rfl) 3 rfl rfl dX3_bringBack_20 ?_
    refine lv_iconst (v := 1) S.1 S.2.1 dX3_bringBack_21 (by decide) ?_
    refine lv_isub S.1 S.2.1 dX3_bringBack_22 ?_
    exact tail _ _ (if_pos c0) hl
  · refine lv_aload_n S.1 S.2.1 dX3_bringBack_7 rfl (lv_at hl 0 rfl) ?_
    refine g_get (v := .int next) S hK hP (hH.1 0 _ rfl) rfl inX3 2 (by decide) qw275 rfl dX3_bringBack_8 ?_
    refine lv_iconst (v := 1) S.1 S.2.1 dX3_bringBack_11 (by decide) ?_
    refine lv_isub S.1 S.2.1 dX3_bringBack_12 ?_
    refine lv_goto (tgt := 23) S.1 S.2.1 dX3_bringBack_13 (by decide) ?_
    exact tail _ _ (if_neg c0) hl
set_option maxHeartbeats 4000000 in
theorem c_X3_forget (l : Launch) (D : va_G) (A : Nat → Prop) (w : va_W) (α : Nat → Nat) (k : Nat) (steps next : Int32) (hs : Nat → StT) (hH : HP D α w k steps next hs) : Met l yX3_forget (ws_ yX3_forget cX3_forget 1 none) ({ frames := 0, cells := 0, slots := 0, locals := 0 }) (gPre D A [.ref (α k)] w) (gQ D A none (fun w1 => HP D α w1 k 0 next hs ∧ Same w w1 k 154)) 0 0 A := by
  refine g_met [(0, .ref (α k))] (plainFor_of_name (by decide)) (Nat.le_of_ble_eq_true rfl) rfl (fun pg en s mi ar below me co ls S hK hP hD hE hS hr hlk hnm hl => ?_)
  refine lv_aload_n S.1 S.2.1 dX3_forget_0 rfl (lv_at hl 0 rfl) ?_
  refine lv_iconst (v := 0) S.1 S.2.1 dX3_forget_1 (by decide) ?_
  refine g_put S hK hP hD hS (hH.1 0 _ rfl) rfl inX3 tyX3_ok nmX3 1 (by decide) qw274 rfl rfl rfl (Nat.le_of_ble_eq_true rfl) dX3_forget_2 (fun w2 H locs hw hP hD hS => ?_)
  have hF2 := Same.set (Same.rf (n := 1)) 0 hw (by decide)
  exact g_vret S hr hlk hP hD hS rfl ⟨⟨hH.1.set 0 hw (Nat.le_of_ble_eq_true rfl) rfl, hH.2.other hF2 (Or.inr (by omega))⟩, ⟨hF2.1, fun j hj => hF2.2 j (by omega)⟩⟩ dX3_forget_5
set_option maxHeartbeats 4000000 in
theorem c_X3_steps (l : Launch) (D : va_G) (A : Nat → Prop) (w : va_W) (α : Nat → Nat) (k : Nat) (steps next : Int32) (hs : Nat → StT) (hH : HP D α w k steps next hs) : Met l yX3_steps (ws_ yX3_steps cX3_steps 1 (some .int)) ({ frames := 0, cells := 0, slots := 0, locals := 0 }) (gPre D A [.ref (α k)] w) (gR (some (.int steps))) 0 0 A := by
  refine g_met [(0, .ref (α k))] (plainFor_of_name (by decide)) (Nat.le_of_ble_eq_true rfl) rfl (fun pg en s mi ar below me co ls S hK hP hD hE hS hr hlk hnm hl => ?_)
  refine lv_aload_n S.1 S.2.1 dX3_steps_0 rfl (lv_at hl 0 rfl) ?_
  refine g_get (v := .int steps) S hK hP (hH.1 0 _ rfl) rfl inX3 1 (by decide) qw274 rfl dX3_steps_1 ?_
  exact g_iretR S hr hlk hS rfl dX3_steps_4
