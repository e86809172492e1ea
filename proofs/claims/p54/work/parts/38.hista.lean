/-- a state as one value -/
abbrev StT : Type := Int32 × Int32 × Int32 × Int32 × Int32 × Int32 × Int32 × Int32 × (Nat → Int32) × (Nat → Int32) × (Nat → Int32) × (Nat → Int32) × (Nat → Int32) × (Nat → Int32) × (Nat → Int32) × (Nat → Int32) × (Nat → Int32) × (Nat → Int32) × (Nat → Int32) × (Nat → Int32) × (Nat → Int32) × Int32 × (Nat → Int32) × Int32
def cSt (D : va_G) (α : Nat → Nat) (k : Nat) (t : StT) : va_W := cState D α k t.1 t.2.1 t.2.2.1 t.2.2.2.1 t.2.2.2.2.1 t.2.2.2.2.2.1 t.2.2.2.2.2.2.1 t.2.2.2.2.2.2.2.1 t.2.2.2.2.2.2.2.2.1 t.2.2.2.2.2.2.2.2.2.1 t.2.2.2.2.2.2.2.2.2.2.1 t.2.2.2.2.2.2.2.2.2.2.2.1 t.2.2.2.2.2.2.2.2.2.2.2.2.1 t.2.2.2.2.2.2.2.2.2.2.2.2.2.1 t.2.2.2.2.2.2.2.2.2.2.2.2.2.2.1 t.2.2.2.2.2.2.2.2.2.2.2.2.2.2.2.1 t.2.2.2.2.2.2.2.2.2.2.2.2.2.2.2.2.1 t.2.2.2.2.2.2.2.2.2.2.2.2.2.2.2.2.2.1 t.2.2.2.2.2.2.2.2.2.2.2.2.2.2.2.2.2.2.1 t.2.2.2.2.2.2.2.2.2.2.2.2.2.2.2.2.2.2.2.1 t.2.2.2.2.2.2.2.2.2.2.2.2.2.2.2.2.2.2.2.2.1 t.2.2.2.2.2.2.2.2.2.2.2.2.2.2.2.2.2.2.2.2.2.1 t.2.2.2.2.2.2.2.2.2.2.2.2.2.2.2.2.2.2.2.2.2.2.1 t.2.2.2.2.2.2.2.2.2.2.2.2.2.2.2.2.2.2.2.2.2.2.2
set_option maxHeartbeats 4000000 in
set_option maxRecDepth 100000 in
theorem c_copySt (l : Launch) (D : va_G) (A : Nat → Prop) (w : va_W) (α : Nat → Nat) (k k2 : Nat) (t u : StT) (hB0 : Blk w k (cSt D α k t)) (hB1 : Blk w k2 (cSt D α k2 u)) (hd1 : k2 + 19 ≤ k ∨ k + 19 ≤ k2) : Met l yX8_copyFrom (ws_ yX8_copyFrom cX8_copyFrom 2 none) ({ frames := 3, cells := 0, slots := 0, locals := 82 }) (gPre D A [.ref (α k), .ref (α k2)] w) (gQ D A none (fun w1 => Blk w1 k (cSt D α k u) ∧ Same w w1 k 19)) 0 0 A :=
  c_X8_copyFrom l D A w α k t.1 t.2.1 t.2.2.1 t.2.2.2.1 t.2.2.2.2.1 t.2.2.2.2.2.1 t.2.2.2.2.2.2.1 t.2.2.2.2.2.2.2.1 t.2.2.2.2.2.2.2.2.1 t.2.2.2.2.2.2.2.2.2.1 t.2.2.2.2.2.2.2.2.2.2.1 t.2.2.2.2.2.2.2.2.2.2.2.1 t.2.2.2.2.2.2.2.2.2.2.2.2.1 t.2.2.2.2.2.2.2.2.2.2.2.2.2.1 t.2.2.2.2.2.2.2.2.2.2.2.2.2.2.1 t.2.2.2.2.2.2.2.2.2.2.2.2.2.2.2.1 t.2.2.2.2.2.2.2.2.2.2.2.2.2.2.2.2.1 t.2.2.2.2.2.2.2.2.2.2.2.2.2.2.2.2.2.1 t.2.2.2.2.2.2.2.2.2.2.2.2.2.2.2.2.2.2.1 t.2.2.2.2.2.2.2.2.2.2.2.2.2.2.2.2.2.2.2.1 t.2.2.2.2.2.2.2.2.2.2.2.2.2.2.2.2.2.2.2.2.1 t.2.2.2.2.2.2.2.2.2.2.2.2.2.2.2.2.2.2.2.2.2.1 t.2.2.2.2.2.2.2.2.2.2.2.2.2.2.2.2.2.2.2.2.2.2.1 t.2.2.2.2.2.2.2.2.2.2.2.2.2.2.2.2.2.2.2.2.2.2.2 k2 u.1 u.2.1 u.2.2.1 u.2.2.2.1 u.2.2.2.2.1 u.2.2.2.2.2.1 u.2.2.2.2.2.2.1 u.2.2.2.2.2.2.2.1 u.2.2.2.2.2.2.2.2.1 u.2.2.2.2.2.2.2.2.2.1 u.2.2.2.2.2.2.2.2.2.2.1 u.2.2.2.2.2.2.2.2.2.2.2.1 u.2.2.2.2.2.2.2.2.2.2.2.2.1 u.2.2.2.2.2.2.2.2.2.2.2.2.2.1 u.2.2.2.2.2.2.2.2.2.2.2.2.2.2.1 u.2.2.2.2.2.2.2.2.2.2.2.2.2.2.2.1 u.2.2.2.2.2.2.2.2.2.2.2.2.2.2.2.2.1 u.2.2.2.2.2.2.2.2.2.2.2.2.2.2.2.2.2.1 u.2.2.2.2.2.2.2.2.2.2.2.2.2.2.2.2.2.2.1 u.2.2.2.2.2.2.2.2.2.2.2.2.2.2.2.2.2.2.2.1 u.2.2.2.2.2.2.2.2.2.2.2.2.2.2.2.2.2.2.2.2.1 u.2.2.2.2.2.2.2.2.2.2.2.2.2.2.2.2.2.2.2.2.2.1 u.2.2.2.2.2.2.2.2.2.2.2.2.2.2.2.2.2.2.2.2.2.2.1 u.2.2.2.2.2.2.2.2.2.2.2.2.2.2.2.2.2.2.2.2.2.2.2 hB0 hB1 hd1
def updS (h : Nat → StT) (i : Nat) (t : StT) : Nat → StT := fun j => if j = i then t else h j
theorem updS_eq {h : Nat → StT} {i : Nat} {t : StT} : updS h i t i = t := if_pos rfl
theorem updS_ne {h : Nat → StT} {i j : Nat} {t : StT} (q : j ≠ i) : updS h i t j = h j := if_neg q
/-- an array of N states behind its own cell, from k on -/
def hArr (D : va_G) (α : Nat → Nat) (k N : Nat) (at0 : Nat) : Nat × va_E := (α k, .inl (D.1 103, N, .inr (.inr (.inr (.inr (fun i => some (α (at0 + 19 * i))))))))
def HSt (D : va_G) (α : Nat → Nat) (w : va_W) (at0 N : Nat) (hs : Nat → StT) : Prop := ∀ i, i < N → Blk w (at0 + 19 * i) (cSt D α (at0 + 19 * i) (hs i))
theorem cSt_len {D : va_G} {α : Nat → Nat} {k : Nat} {t : StT} : (cSt D α k t).length = 19 := rfl
theorem HSt.other {D : va_G} {α : Nat → Nat} {w w' : va_W} {at0 N : Nat} {hs : Nat → StT} (h : HSt D α w at0 N hs) {k2 n2 : Nat} (q : Same w w' k2 n2) (hd : at0 + 19 * N ≤ k2 ∨ k2 + n2 ≤ at0) : HSt D α w' at0 N hs := fun i hi => (h i hi).other q (by rw [cSt_len]; omega)
theorem HSt.put {D : va_G} {α : Nat → Nat} {w w' : va_W} {at0 N : Nat} {hs : Nat → StT} (h : HSt D α w at0 N hs) {i : Nat} {t : StT} (q : Same w w' (at0 + 19 * i) 19) (hb : Blk w' (at0 + 19 * i) (cSt D α (at0 + 19 * i) t)) : HSt D α w' at0 N (updS hs i t) := by
  intro j hj
  by_cases e : j = i
  · subst e
    rw [updS_eq]
    exact hb
  · rw [updS_ne e]
    exact (h j hj).other q (by rw [cSt_len]; omega)
def HP (D : va_G) (α : Nat → Nat) (w : va_W) (k : Nat) (steps next : Int32) (hs : Nat → StT) : Prop := Blk w k [cO α k 3 [rf α (k + 1), .int steps, .int next], hArr D α (k + 1) 8 (k + 2)] ∧ HSt D α w (k + 2) 8 hs
theorem HP.other {D : va_G} {α : Nat → Nat} {w w' : va_W} {k : Nat} {steps next : Int32} {hs : Nat → StT} (h : HP D α w k steps next hs) {k2 n2 : Nat} (q : Same w w' k2 n2) (hd : k + 154 ≤ k2 ∨ k2 + n2 ≤ k) : HP D α w' k steps next hs := ⟨h.1.other q (by show k + 2 ≤ k2 ∨ k2 + n2 ≤ k; omega), h.2.other q (by omega)⟩
theorem isIn_vin {i : Int32} {n : Nat} (hn : n < 2 ^ 31) (h : f_X11_isIn i (nI n) = true) : vp_in i n := by
  unfold f_X11_isIn at h
  by_cases h1 : i < 0
  · rw [if_pos h1] at h; cases h
  · by_cases h2 : nI n ≤ i
    · rw [if_neg h1, if_pos h2] at h; cases h
    · exact vin_of hn h1 h2
theorem isIn_nin {i : Int32} {n : Nat} (hn : n < 2 ^ 31) (h : f_X11_isIn i (nI n) = false) : ¬ vp_in i n := by
  intro q
  unfold f_X11_isIn at h
  obtain ⟨e, h0⟩ := vin_nI q
  rw [if_neg (fun z => q (Or.inl z))] at h
  by_cases h2 : nI n ≤ i
  · rw [e] at h2
    have := (nI_leI hn (by omega)).mp h2
    omega
  · rw [if_neg h2] at h; cases h
def f_X3_remember (steps next : Int32) (hs : Nat → StT) (t : StT) : Int32 × Int32 × (Nat → StT) :=
  bif f_X11_isIn next 8 then ((if 8 < steps + 1 then 8 else steps + 1), (if 8 ≤ next + 1 then 0 else next + 1), updS hs next.toNatClampNeg t) else (steps, next, hs)
set_option maxHeartbeats 4000000 in
set_option maxRecDepth 100000 in
theorem c_X3_remember (l : Launch) (D : va_G) (A : Nat → Prop) (w : va_W) (α : Nat → Nat) (k : Nat) (steps next : Int32) (hs : Nat → StT) (k2 : Nat) (t : StT) (hH : HP D α w k steps next hs) (hB : Blk w k2 (cSt D α k2 t)) (hd : k2 + 19 ≤ k ∨ k + 154 ≤ k2) : Met l yX3_remember (ws_ yX3_remember cX3_remember 2 none) ({ frames := 4, cells := 0, slots := 0, locals := 103 } : Room) (gPre D A [.ref (α k), .ref (α k2)] w) (gQ D A none (fun w1 => HP D α w1 k (f_X3_remember steps next hs t).1 (f_X3_remember steps next hs t).2.1 (f_X3_remember steps next hs t).2.2 ∧ Same w w1 k 154)) 0 0 A := by
  refine g_met [(0, .ref (α k)), (1, .ref (α k2))] (plainFor_of_name (by decide)) (Nat.le_of_ble_eq_true rfl) rfl (fun pg en s mi ar below me co ls S hK hP hD hE hS hr hlk hnm hl => ?_)
  refine lv_aload_n S.1 S.2.1 dX3_remember_0 rfl (lv_at hl 0 rfl) ?_
  refine g_get (v := .int next) S hK hP (hH.1 0 _ rfl) rfl inX3 2 (by decide) qw275 rfl dX3_remember_1 ?_
  refine lv_aload_n S.1 S.2.1 dX3_remember_4 rfl (lv_at hl 0 rfl) ?_
  refine g_get (v := rf α (k + 1)) S hK hP (hH.1 0 _ rfl) rfl inX3 0 (by decide) qw273 rfl dX3_remember_5 ?_
  refine g_alen (v := 8) S hK hP (hH.1 1 _ rfl) 3 rfl rfl dX3_remember_8 ?_
  refine g_aftR0 (st1 := [.int (b2i (f_X11_isIn next 8))]) (g_SN (As := [.int next, .int 8]) (rest := []) S ms_X11_isIn qn_RX3_25 (c_X11_isIn l D A w α next 8) hK hP hD hE hS rfl rfl hl.1 (Nat.le_of_ble_eq_true rfl) rfl rfl ⟨(Nat.le_of_ble_eq_true rfl), (Nat.le_of_ble_eq_true rfl)⟩ ⟨(Nat.le_of_ble_eq_true rfl), (Nat.le_of_ble_eq_true rfl)⟩ dX3_remember_9) hS rfl (fun locs hS => ?_)
  refine g_bifne (b := f_X11_isIn next 8) (tgt := 16) S dX3_remember_12 (by decide) (fun c1 => ?_) (fun c1 => ?_)
  · have hin : vp_in next 8 := isIn_vin (n := 8) (by decide) c1
    obtain ⟨-, hlt⟩ := vin_nI hin
    have hf : f_X3_remember steps next hs t = ((if 8 < steps + 1 then 8 else steps + 1), (if 8 ≤ next + 1 then 0 else next + 1), updS hs next.toNatClampNeg t) := cd_t c1
    refine lv_aload_n S.1 S.2.1 dX3_remember_16 rfl (lv_at hl 0 rfl) ?_
    refine g_get (v := rf α (k + 1)) S hK hP (hH.1 0 _ rfl) rfl inX3 0 (by decide) qw273 rfl dX3_remember_17 ?_
    refine lv_aload_n S.1 S.2.1 dX3_remember_20 rfl (lv_at hl 0 rfl) ?_
    refine g_get (v := .int next) S hK hP (hH.1 0 _ rfl) rfl inX3 2 (by decide) qw275 rfl dX3_remember_21 ?_
    refine va_aldq S.1 S.2.1 hK hP (k + 1) 3 (hH.1 1 _ rfl) rfl hin dX3_remember_24 ?_
    refine lv_aload_n S.1 S.2.1 dX3_remember_25 rfl (lv_at hl 1 rfl) ?_
    refine g_aft0 (st1 := []) (g_V (As := [.ref (α k2)]) (rest := []) (b := α (k + 2 + 19 * next.toNatClampNeg)) S mi_X8_copyFrom qw404 (c_copySt l D A w α (k + 2 + 19 * next.toNatClampNeg) k2 _ t (hH.2 _ hlt) hB (by omega)) hK hP hD hE hS (hH.2 _ hlt 0 _ rfl) rfl rfl rfl hl.1 (Nat.le_of_ble_eq_true rfl) rfl rfl ⟨(Nat.le_of_ble_eq_true rfl), (Nat.le_of_ble_eq_true rfl)⟩ ⟨(Nat.le_of_ble_eq_true rfl), (Nat.le_of_ble_eq_true rfl)⟩ dX3_remember_26) hS rfl (fun w1 H locs hQ hP hD hS => ?_)
    have hst := hH.2.put hQ.2 hQ.1
    have hob := hH.1.other hQ.2 (Or.inl (show k + 2 ≤ k + 2 + 19 * next.toNatClampNeg by omega))
    have hF : Same w w1 k 154 := ⟨hQ.2.1, fun j hj => hQ.2.2 j (by omega)⟩
    refine lv_aload_n S.1 S.2.1 dX3_remember_29 rfl (lv_at hl 0 rfl) ?_
    refine lv_aload_n S.1 S.2.1 dX3_remember_30 rfl (lv_at hl 0 rfl) ?_
    refine g_get (v := .int next) S hK hP (hob 0 _ rfl) rfl inX3 2 (by decide) qw275 rfl dX3_remember_31 ?_
    refine lv_iconst (v := 1) S.1 S.2.1 dX3_remember_34 (by decide) ?_
    refine lv_iadd S.1 S.2.1 dX3_remember_35 ?_
    refine lv_aload_n S.1 S.2.1 dX3_remember_36 rfl (lv_at hl 0 rfl) ?_
    refine g_get (v := rf α (k + 1)) S hK hP (hob 0 _ rfl) rfl inX3 0 (by decide) qw273 rfl dX3_remember_37 ?_
    refine g_alen (v := 8) S hK hP (hob 1 _ rfl) 3 rfl rfl dX3_remember_40 ?_
    have tail : ∀ (v : Int32) (ls : Array Slot), (if 8 ≤ next + 1 then (0 : Int32) else next + 1) = v → lv_has ls 2 [(0, .ref (α k)), (1, .ref (α k2))] → W pg l en ({ frames := 4, cells := 0, slots := 0, locals := 103 } : Room) s mi ar below me co H locs 0 0 (MQ below (gQ D A none (fun w1 => HP D α w1 k (f_X3_remember steps next hs t).1 (f_X3_remember steps next hs t).2.1 (f_X3_remember steps next hs t).2.2 ∧ Same w w1 k 154)) ar s 0 0 A) (F0 mi 54 ls [.int v, .ref (α k)]) := by
      intro v ls hv hl
      refine g_put S hK hP hD hS (hob 0 _ rfl) rfl inX3 tyX3_ok nmX3 2 (by decide) qw275 rfl rfl rfl (Nat.le_of_ble_eq_true rfl) dX3_remember_54 (fun w2 H locs hw hP hD hS => ?_)
      have hF := Same.set hF 0 hw (by decide)
      have hst := hst.other (Same.set (Same.rf (n := 1)) 0 hw (by decide)) (Or.inr (by omega))
      have hob := hob.set 0 hw (Nat.le_of_ble_eq_true rfl) rfl
      refine lv_aload_n S.1 S.2.1 dX3_remember_57 rfl (lv_at hl 0 rfl) ?_
      refine lv_aload_n S.1 S.2.1 dX3_remember_58 rfl (lv_at hl 0 rfl) ?_
      refine g_get (v := .int steps) S hK hP (hob 0 _ rfl) rfl inX3 1 (by decide) qw274 rfl dX3_remember_59 ?_
      refine lv_iconst (v := 1) S.1 S.2.1 dX3_remember_62 (by decide) ?_
      refine lv_iadd S.1 S.2.1 dX3_remember_63 ?_
      refine lv_aload_n S.1 S.2.1 dX3_remember_64 rfl (lv_at hl 0 rfl) ?_
      refine g_get (v := rf α (k + 1)) S hK hP (hob 0 _ rfl) rfl inX3 0 (by decide) qw273 rfl dX3_remember_65 ?_
      refine g_alen (v := 8) S hK hP (hob 1 _ rfl) 3 rfl rfl dX3_remember_68 ?_
      refine va_mmin S.1 S.2.1 (S.2.2.1.trans hl.1.symm) S.2.2.2.1 (S.2.2.2.2 _ qw431) (S.2.2.2.2 _ qw416) (S.2.2.2.2 _ qw4) (S.2.2.2.2 _ qw417) (Nat.le_of_ble_eq_true rfl) (Nat.le_of_ble_eq_true rfl) (Nat.le_of_ble_eq_true rfl) (Nat.le_of_ble_eq_true rfl) dX3_remember_69 ?_
      refine g_put S hK hP hD hS (hob 0 _ rfl) rfl inX3 tyX3_ok nmX3 1 (by decide) qw274 rfl rfl rfl (Nat.le_of_ble_eq_true rfl) dX3_remember_72 (fun w3 H locs hw hP hD hS => ?_)
      have hF := Same.set hF 0 hw (by decide)
      have hst := hst.other (Same.set (Same.rf (n := 1)) 0 hw (by decide)) (Or.inr (by omega))
      have hob := hob.set 0 hw (Nat.le_of_ble_eq_true rfl) rfl
      refine g_vret S hr hlk hP hD hS rfl ?_ dX3_remember_75
      rw [hf]
      dsimp only
      rw [hv]
      exact ⟨⟨hob, hst⟩, hF⟩
    refine lv_icmp_ge (tgt := 53) S.1 S.2.1 dX3_remember_41 (by decide) (fun (c2 : 8 ≤ next + 1) => ?_) (fun (c2 : ¬ 8 ≤ next + 1) => ?_)
    · refine lv_iconst (v := 0) S.1 S.2.1 dX3_remember_53 (by decide) ?_
      exact tail _ _ (if_pos c2) hl
    · refine lv_aload_n S.1 S.2.1 dX3_remember_44 rfl (lv_at hl 0 rfl) ?_
      refine g_get (v := .int next) S hK hP (hob 0 _ rfl) rfl inX3 2 (by decide) qw275 rfl dX3_remember_45 ?_
      refine lv_iconst (v := 1) S.1 S.2.1 dX3_remember_48 (by decide) ?_
      refine lv_iadd S.1 S.2.1 dX3_remember_49 ?_
      refine lv_goto (tgt := 54) S.1 S.2.1 dX3_remember_50 (by decide) ?_
      exact tail _ _ (if_neg c2) hl
  · have hf : f_X3_remember steps next hs t = (steps, next, hs) := cd_f c1
    refine g_vret S hr hlk hP hD hS rfl ?_ dX3_remember_15
    rw [hf]
    exact ⟨hH, Same.rf⟩
