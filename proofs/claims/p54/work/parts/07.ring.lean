theorem va_at_cong {D : va_G} {a n : Nat} {cA : ClassId} {f g : Nat → Int32} {H : Heap} (h : va_at D vwCl (a, .inl (cA, n, .inl f)) H) (e : ∀ j, j < n → f j = g j) : va_at D vwCl (a, .inl (cA, n, .inl g)) H := by
  show H[a]? = some (vp_cell cA (n, .inl g))
  have h1 : H[a]? = some (vp_cell cA (n, .inl f)) := h
  rw [h1, vp_cell_i, vp_cell_i]
  unfold arrV
  congr 2
  refine Array.ext (by simp) (fun i h2 h3 => ?_)
  simp only [Array.getElem_ofFn]
  rw [e i (by simpa using h3)]
theorem va_P_cong {D : va_G} {w : va_W} {k a n : Nat} {cA : ClassId} {f g : Nat → Int32} {H : Heap} (h : va_P D vwCl (w.set k (a, .inl (cA, n, .inl f))) H) (e : ∀ j, j < n → f j = g j) : va_P D vwCl (w.set k (a, .inl (cA, n, .inl g))) H := by
  intro i q hq
  by_cases hi : i = k
  · subst hi
    by_cases hl : i < w.length
    · rw [List.getElem?_set_self hl] at hq
      cases hq
      exact va_at_cong (h i _ (List.getElem?_set_self hl)) e
    · rw [List.getElem?_eq_none (by rw [List.length_set]; omega)] at hq
      cases hq
  · rw [List.getElem?_set_ne (fun z => hi z.symm)] at hq
    exact h i q (by rw [List.getElem?_set_ne (fun z => hi z.symm)]; exact hq)
theorem va_D_cong {A : Nat → Prop} {w : va_W} {k a : Nat} {e e' : va_E} (h : va_D A (w.set k (a, e))) : va_D A (w.set k (a, e')) := by
  have key : ∀ (i : Nat) (q : Nat × va_E), (w.set k (a, e'))[i]? = some q → ∃ q', (w.set k (a, e))[i]? = some q' ∧ q'.1 = q.1 := by
    intro i q hq
    by_cases hi : i = k
    · subst hi
      by_cases hl : i < w.length
      · rw [List.getElem?_set_self hl] at hq
        cases hq
        exact ⟨_, List.getElem?_set_self hl, rfl⟩
      · rw [List.getElem?_eq_none (by rw [List.length_set]; omega)] at hq
        cases hq
    · rw [List.getElem?_set_ne (fun z => hi z.symm)] at hq
      exact ⟨q, by rw [List.getElem?_set_ne (fun z => hi z.symm)]; exact hq, rfl⟩
  refine ⟨fun i j p q hp hq hpq => ?_, fun i q hq => ?_⟩
  · obtain ⟨p', h1, h2⟩ := key i p hp
    obtain ⟨q', h3, h4⟩ := key j q hq
    exact h.1 i j p' q' h1 h3 (by rw [h2, h4, hpq])
  · obtain ⟨q', h1, h2⟩ := key i q hq
    rw [← h2]; exact h.2 i q' h1
/-- copyRow between rows of one length: the second row is as the first -/
def f_X11_copyRow (r1n : Nat) (r1f : Nat → Int32) (r2n : Nat) (r2f : Nat → Int32) : Nat → Int32 := r1f
set_option maxHeartbeats 4000000 in
set_option maxRecDepth 100000 in
theorem c_X11_copyRow (l : Launch) (D : va_G) (A : Nat → Prop) (w : va_W) (α : Nat → Nat) (r1 : Nat) (r1n : Nat) (r1f : Nat → Int32) (r2 : Nat) (r2n : Nat) (r2f : Nat → Int32) (hB0 : w[r1]? = some (cI D α r1 r1n r1f)) (hB1 : w[r2]? = some (cI D α r2 r2n r2f)) (hy0 : r1n < 2147483648) (hy1 : r1n = r2n) : Met l yX11_copyRow (ws_ yX11_copyRow cX11_copyRow 2 none) ({ frames := 1, cells := 0, slots := 0, locals := 40 }) (gPre D A [.ref (α r1), .ref (α r2)] w) (gQ D A none (fun w1 => w1 = w.set r2 (cI D α r2 r2n (f_X11_copyRow r1n r1f r2n r2f)))) 0 0 A := by
  refine g_met [(0, .ref (α r1)), (1, .ref (α r2))] (plainFor_of_name (by decide)) (Nat.le_of_ble_eq_true rfl) rfl (fun pg en s mi ar below me co ls S hK hP hD hE hS hr hlk hnm hl => ?_)
  subst hy1
  refine lv_aload_n S.1 S.2.1 dX11_copyRow_0 rfl (lv_at hl 0 rfl) ?_
  refine lv_iconst (v := 0) S.1 S.2.1 dX11_copyRow_1 (by decide) ?_
  refine lv_aload_n S.1 S.2.1 dX11_copyRow_2 rfl (lv_at hl 1 rfl) ?_
  refine lv_iconst (v := 0) S.1 S.2.1 dX11_copyRow_3 (by decide) ?_
  refine lv_aload_n S.1 S.2.1 dX11_copyRow_4 rfl (lv_at hl 0 rfl) ?_
  refine g_alen (v := (nI r1n)) S hK hP hB0 0 rfl rfl dX11_copyRow_5 ?_
  refine lv_aload_n S.1 S.2.1 dX11_copyRow_6 rfl (lv_at hl 1 rfl) ?_
  refine g_alen (v := (nI r1n)) S hK hP hB1 0 rfl rfl dX11_copyRow_7 ?_
  refine va_mmin S.1 S.2.1 (S.2.2.1.trans hl.1.symm) S.2.2.2.1 (S.2.2.2.2 _ qw415) (S.2.2.2.2 _ qw416) (S.2.2.2.2 _ qw4) (S.2.2.2.2 _ qw417) (Nat.le_of_ble_eq_true rfl) (Nat.le_of_ble_eq_true rfl) (Nat.le_of_ble_eq_true rfl) (Nat.le_of_ble_eq_true rfl) dX11_copyRow_8 ?_
  have e1 : (if nI r1n < nI r1n then nI r1n else nI r1n) = nI r1n := by split <;> rfl
  rw [e1]
  have hc := nI_clamp hy0
  refine va_copyi S.1 S.2.1 (S.2.2.1.trans hl.1.symm) S.2.2.2.1 (S.2.2.2.2 _ qw418) (S.2.2.2.2 _ qw420) (S.2.2.2.2 _ qw419) (S.2.2.2.2 _ qw20) hK hP hD hS r1 r2 0 0 hB0 hB1 rfl rfl rfl (by decide) (by decide) (nI_pos hy0) (by rw [hc]; simp) (by rw [hc]; simp) (fun i _ => rfl) (Nat.le_of_ble_eq_true rfl) (Nat.le_of_ble_eq_true rfl) dX11_copyRow_11 (fun H locs hP hD hS => ?_)
  refine g_vret S hr hlk (va_P_cong hP (g := r1f) (fun j hj => ?_)) (va_D_cong hD) hS rfl rfl dX11_copyRow_14
  rw [hc]
  show va_cpy r1f r2f 0 0 r1n j = r1f j
  rw [pk_cpy_in (Nat.zero_le _) (by omega)]
  congr 1
  omega
def f_X5_clear  : Int32 := 0
set_option maxHeartbeats 4000000 in
set_option maxRecDepth 100000 in
theorem c_X5_clear (l : Launch) (D : va_G) (A : Nat → Prop) (w : va_W) (α : Nat → Nat) (k : Nat) (r : Nat) (f : Nat → Int32) (ad : Int32) (hB0 : Blk w k (cRing D α k r f ad)) : Met l yX5_clear (ws_ yX5_clear cX5_clear 1 none) ({ frames := 0, cells := 0, slots := 0, locals := 0 }) (gPre D A [.ref (α (k))] w) (gQ D A none (fun w1 => Blk w1 k (cRing D α k r f f_X5_clear) ∧ Same w w1 k 2)) 0 0 A := by
  refine g_met [(0, .ref (α (k)))] (plainFor_of_name (by decide)) (Nat.le_of_ble_eq_true rfl) rfl (fun pg en s mi ar below me co ls S hK hP hD hE hS hr hlk hnm hl => ?_)
  have hF : Same w w k 2 := Same.rf
  refine lv_aload_n S.1 S.2.1 dX5_clear_0 rfl (lv_at hl 0 rfl) ?_
  refine lv_iconst (v := 0) S.1 S.2.1 dX5_clear_1 (by decide) ?_
  refine g_put S hK hP hD hS (hB0 0 _ rfl) rfl inX5 tyX5_ok nmX5 2 (by decide) qw172 rfl rfl rfl (Nat.le_of_ble_eq_true rfl) dX5_clear_2 (fun w1 H locs hw hP hD hS => ?_)
  have hF := Same.set hF 0 hw (by decide)
  have hB0 : Blk w1 k (cRing D α k r f 0) := hB0.set 0 hw (Nat.le_of_ble_eq_true rfl) rfl
  have hf : f_X5_clear = 0 := rfl
  exact g_vret S hr hlk hP hD hS (rfl) (⟨by rw [hf]; exact hB0, hF⟩) dX5_clear_5
def f_X5_copyFrom (r : Nat) (f : Nat → Int32) (r2 : Nat) (f2 : Nat → Int32) (ad2 : Int32) : Int32 × (Nat → Int32) := (ad2, (f_X11_copyRow (4 * r2) f2 (4 * r) f))
set_option maxHeartbeats 4000000 in
set_option maxRecDepth 100000 in
theorem c_X5_copyFrom (l : Launch) (D : va_G) (A : Nat → Prop) (w : va_W) (α : Nat → Nat) (k : Nat) (r : Nat) (f : Nat → Int32) (ad : Int32) (k2 : Nat) (r2 : Nat) (f2 : Nat → Int32) (ad2 : Int32) (hB0 : Blk w k (cRing D α k r f ad)) (hB1 : Blk w k2 (cRing D α k2 r2 f2 ad2)) (hd1 : k2 + 2 ≤ k ∨ k + 2 ≤ k2) (hy0 : r < 1000) (hy1 : r2 = r) : Met l yX5_copyFrom (ws_ yX5_copyFrom cX5_copyFrom 2 none) ({ frames := 2, cells := 0, slots := 0, locals := 61 }) (gPre D A [.ref (α (k)), .ref (α (k2))] w) (gQ D A none (fun w1 => Blk w1 k (cRing D α k r ((f_X5_copyFrom r f r2 f2 ad2).2) ((f_X5_copyFrom r f r2 f2 ad2).1)) ∧ Same w w1 k 2)) 0 0 A := by
  refine g_met [(0, .ref (α (k))), (1, .ref (α (k2)))] (plainFor_of_name (by decide)) (Nat.le_of_ble_eq_true rfl) rfl (fun pg en s mi ar below me co ls S hK hP hD hE hS hr hlk hnm hl => ?_)
  have hF : Same w w k 2 := Same.rf
  refine lv_aload_n S.1 S.2.1 dX5_copyFrom_0 rfl (lv_at hl 1 rfl) ?_
  refine g_get (v := .ref (α (k2 + 1))) S hK hP (hB1 0 _ rfl) rfl inX5 1 (by decide) qw171 rfl dX5_copyFrom_1 ?_
  refine lv_aload_n S.1 S.2.1 dX5_copyFrom_4 rfl (lv_at hl 0 rfl) ?_
  refine g_get (v := .ref (α (k + 1))) S hK hP (hB0 0 _ rfl) rfl inX5 1 (by decide) qw171 rfl dX5_copyFrom_5 ?_
  refine g_aft0 (st1 := []) (g_SN (As := [.ref (α (k2 + 1)), .ref (α (k + 1))]) (rest := []) S ms_X11_copyRow qn_RX5_28 (c_X11_copyRow l D A w α (k2 + 1) (4 * r2) f2 (k + 1) (4 * r) f (hB1 1 _ rfl) (hB0 1 _ rfl) (by first | assumption | exact vin_d (by decide) | exact vp_in_nI (by omega) (by decide) | decide | omega) (by first | assumption | exact vin_d (by decide) | exact vp_in_nI (by omega) (by decide) | decide | omega)) hK hP hD hE hS rfl rfl hl.1 (Nat.le_of_ble_eq_true rfl) rfl rfl ⟨(Nat.le_of_ble_eq_true rfl), (Nat.le_of_ble_eq_true rfl)⟩ ⟨(Nat.le_of_ble_eq_true rfl), (Nat.le_of_ble_eq_true rfl)⟩ dX5_copyFrom_8) hS rfl (fun w1 H locs hQ hP hD hS => ?_)
  have hw := hQ
  have hF := Same.set hF 1 hw (by decide)
  have hB0 : Blk w1 k (cRing D α k r (f_X11_copyRow (4 * r2) f2 (4 * r) f) ad) := hB0.set 1 hw (Nat.le_of_ble_eq_true rfl) rfl
  refine lv_aload_n S.1 S.2.1 dX5_copyFrom_11 rfl (lv_at hl 0 rfl) ?_
  refine lv_aload_n S.1 S.2.1 dX5_copyFrom_12 rfl (lv_at hl 1 rfl) ?_
  refine g_get (v := .int ad2) S hK hP ((hB1.other hF hd1) 0 _ rfl) rfl inX5 2 (by decide) qw172 rfl dX5_copyFrom_13 ?_
  refine g_put S hK hP hD hS (hB0 0 _ rfl) rfl inX5 tyX5_ok nmX5 2 (by decide) qw172 rfl rfl rfl (Nat.le_of_ble_eq_true rfl) dX5_copyFrom_16 (fun w2 H locs hw hP hD hS => ?_)
  have hF := Same.set hF 0 hw (by decide)
  have hB0 : Blk w2 k (cRing D α k r (f_X11_copyRow (4 * r2) f2 (4 * r) f) ad2) := hB0.set 0 hw (Nat.le_of_ble_eq_true rfl) rfl
  have hf : (f_X5_copyFrom r f r2 f2 ad2) = (ad2, (f_X11_copyRow (4 * r2) f2 (4 * r) f)) := rfl
  exact g_vret S hr hlk hP hD hS (rfl) (⟨by rw [hf]; exact hB0, hF⟩) dX5_copyFrom_19
def f_X5_size (r : Nat) (ad : Int32) : Int32 := (if (nI r) < ad then (nI r) else ad)
set_option maxHeartbeats 4000000 in
set_option maxRecDepth 100000 in
theorem c_X5_size (l : Launch) (D : va_G) (A : Nat → Prop) (w : va_W) (α : Nat → Nat) (k : Nat) (r : Nat) (f : Nat → Int32) (ad : Int32) (hB0 : Blk w k (cRing D α k r f ad)) : Met l yX5_size (ws_ yX5_size cX5_size 1 (some .int)) ({ frames := 1, cells := 0, slots := 0, locals := 13 }) (gPre D A [.ref (α (k))] w) (gR (some (.int (f_X5_size r ad)))) 0 0 A := by
  refine g_met [(0, .ref (α (k)))] (plainFor_of_name (by decide)) (Nat.le_of_ble_eq_true rfl) rfl (fun pg en s mi ar below me co ls S hK hP hD hE hS hr hlk hnm hl => ?_)
  refine lv_aload_n S.1 S.2.1 dX5_size_0 rfl (lv_at hl 0 rfl) ?_
  refine g_get (v := .int ad) S hK hP (hB0 0 _ rfl) rfl inX5 2 (by decide) qw172 rfl dX5_size_1 ?_
  refine lv_aload_n S.1 S.2.1 dX5_size_4 rfl (lv_at hl 0 rfl) ?_
  refine g_get (v := .int (nI r)) S hK hP (hB0 0 _ rfl) rfl inX5 0 (by decide) qw170 rfl dX5_size_5 ?_
  refine va_mmin S.1 S.2.1 (S.2.2.1.trans hl.1.symm) S.2.2.2.1 (S.2.2.2.2 _ qw820) (S.2.2.2.2 _ qw416) (S.2.2.2.2 _ qw4) (S.2.2.2.2 _ qw417) (Nat.le_of_ble_eq_true rfl) (Nat.le_of_ble_eq_true rfl) (Nat.le_of_ble_eq_true rfl) (Nat.le_of_ble_eq_true rfl) dX5_size_8 ?_
  have hf : (f_X5_size r ad) = (if (nI r) < ad then (nI r) else ad) := rfl
  exact g_iretR S hr hlk hS (by rw [hf] <;> rfl) dX5_size_11
def f_X5_oldest (r : Nat) (ad : Int32) : Int32 := (if (ad - (nI r)) < 0 then 0 else (ad - (nI r)))
set_option maxHeartbeats 4000000 in
set_option maxRecDepth 100000 in
theorem c_X5_oldest (l : Launch) (D : va_G) (A : Nat → Prop) (w : va_W) (α : Nat → Nat) (k : Nat) (r : Nat) (f : Nat → Int32) (ad : Int32) (hB0 : Blk w k (cRing D α k r f ad)) : Met l yX5_oldest (ws_ yX5_oldest cX5_oldest 1 (some .int)) ({ frames := 1, cells := 0, slots := 0, locals := 13 }) (gPre D A [.ref (α (k))] w) (gR (some (.int (f_X5_oldest r ad)))) 0 0 A := by
  refine g_met [(0, .ref (α (k)))] (plainFor_of_name (by decide)) (Nat.le_of_ble_eq_true rfl) rfl (fun pg en s mi ar below me co ls S hK hP hD hE hS hr hlk hnm hl => ?_)
  refine lv_aload_n S.1 S.2.1 dX5_oldest_0 rfl (lv_at hl 0 rfl) ?_
  refine g_get (v := .int ad) S hK hP (hB0 0 _ rfl) rfl inX5 2 (by decide) qw172 rfl dX5_oldest_1 ?_
  refine lv_aload_n S.1 S.2.1 dX5_oldest_4 rfl (lv_at hl 0 rfl) ?_
  refine g_get (v := .int (nI r)) S hK hP (hB0 0 _ rfl) rfl inX5 0 (by decide) qw170 rfl dX5_oldest_5 ?_
  refine lv_isub S.1 S.2.1 dX5_oldest_8 ?_
  refine lv_iconst (v := 0) S.1 S.2.1 dX5_oldest_9 (by decide) ?_
  refine va_mmax S.1 S.2.1 (S.2.2.1.trans hl.1.symm) S.2.2.2.1 (S.2.2.2.2 _ qw169) (S.2.2.2.2 _ qw45) (S.2.2.2.2 _ qw4) (S.2.2.2.2 _ qw46) (Nat.le_of_ble_eq_true rfl) (Nat.le_of_ble_eq_true rfl) (Nat.le_of_ble_eq_true rfl) (Nat.le_of_ble_eq_true rfl) dX5_oldest_10 ?_
  have hf : (f_X5_oldest r ad) = (if (ad - (nI r)) < 0 then 0 else (ad - (nI r))) := rfl
  exact g_iretR S hr hlk hS (by rw [hf] <;> rfl) dX5_oldest_13
def f_X5_placeOf (r : Nat) (row : Int32) : Int32 := (if 1 ≤ (nI r) then ((f_J9_floorMod_7cf53 row (nI r)) * 4) else 0)
set_option maxHeartbeats 4000000 in
set_option maxRecDepth 100000 in
theorem c_X5_placeOf (l : Launch) (D : va_G) (A : Nat → Prop) (w : va_W) (α : Nat → Nat) (k : Nat) (r : Nat) (f : Nat → Int32) (ad : Int32) (row : Int32) (hB0 : Blk w k (cRing D α k r f ad)) : Met l yX5_placeOf (ws_ yX5_placeOf cX5_placeOf 2 (some .int)) ({ frames := 1, cells := 0, slots := 0, locals := 22 }) (gPre D A [.ref (α (k)), .int row] w) (gR (some (.int (f_X5_placeOf r row)))) 0 0 A := by
  refine g_met [(0, .ref (α (k))), (1, .int row)] (plainFor_of_name (by decide)) (Nat.le_of_ble_eq_true rfl) rfl (fun pg en s mi ar below me co ls S hK hP hD hE hS hr hlk hnm hl => ?_)
  refine lv_aload_n S.1 S.2.1 dX5_placeOf_0 rfl (lv_at hl 0 rfl) ?_
  refine g_get (v := .int (nI r)) S hK hP (hB0 0 _ rfl) rfl inX5 0 (by decide) qw170 rfl dX5_placeOf_1 ?_
  refine lv_iconst (v := 1) S.1 S.2.1 dX5_placeOf_4 (by decide) ?_
  refine lv_icmp_ge (tgt := 12) S.1 S.2.1 dX5_placeOf_5 (by decide) (fun (c1 : 1 ≤ (nI r)) => ?_) (fun (c1 : ¬ 1 ≤ (nI r)) => ?_)
  · refine lv_iload_n S.1 S.2.1 dX5_placeOf_12 rfl (lv_at hl 1 rfl) ?_
    refine lv_aload_n S.1 S.2.1 dX5_placeOf_13 rfl (lv_at hl 0 rfl) ?_
    refine g_get (v := .int (nI r)) S hK hP (hB0 0 _ rfl) rfl inX5 0 (by decide) qw170 rfl dX5_placeOf_14 ?_
    refine g_aftR0 (st1 := [.int (f_J9_floorMod_7cf53 row (nI r))]) (g_St (As := [.int row, .int (nI r)]) (rest := []) S ms_J9_floorMod_7cf53 qw459 (c_J9_floorMod_7cf53 l D A w α row (nI r) (by intro h; rw [h] at c1; exact absurd c1 (by decide))) hK hP hD hE hS rfl rfl hl.1 (Nat.le_of_ble_eq_true rfl) rfl rfl ⟨(Nat.le_of_ble_eq_true rfl), (Nat.le_of_ble_eq_true rfl)⟩ ⟨(Nat.le_of_ble_eq_true rfl), (Nat.le_of_ble_eq_true rfl)⟩ dX5_placeOf_17) hS rfl (fun locs hS => ?_)
    refine lv_iconst (v := 4) S.1 S.2.1 dX5_placeOf_20 (by decide) ?_
    refine lv_imul S.1 S.2.1 dX5_placeOf_21 ?_
    have hf : (f_X5_placeOf r row) = ((f_J9_floorMod_7cf53 row (nI r)) * 4) := if_pos c1
    exact g_iretR S hr hlk hS (by rw [hf] <;> rfl) dX5_placeOf_22
  · refine lv_iconst (v := 0) S.1 S.2.1 dX5_placeOf_8 (by decide) ?_
    refine lv_goto (tgt := 22) S.1 S.2.1 dX5_placeOf_9 (by decide) ?_
    have hf : (f_X5_placeOf r row) = 0 := if_neg c1
    exact g_iretR S hr hlk hS (by rw [hf] <;> rfl) dX5_placeOf_22
def f_X5_add (r : Nat) (f : Nat → Int32) (ad : Int32) (i1 : Int32) (i2 : Int32) (i3 : Int32) (i4 : Int32) : Int32 × (Nat → Int32) := ((ad + 1), (f_X11_setCell (4 * r) (f_X11_setCell (4 * r) (f_X11_setCell (4 * r) (f_X11_setCell (4 * r) f (f_X5_placeOf r ad) i1) ((f_X5_placeOf r ad) + 1) i2) ((f_X5_placeOf r ad) + 2) i3) ((f_X5_placeOf r ad) + 3) i4))
set_option maxHeartbeats 4000000 in
set_option maxRecDepth 100000 in
theorem c_X5_add (l : Launch) (D : va_G) (A : Nat → Prop) (w : va_W) (α : Nat → Nat) (k : Nat) (r : Nat) (f : Nat → Int32) (ad : Int32) (i1 : Int32) (i2 : Int32) (i3 : Int32) (i4 : Int32) (hB0 : Blk w k (cRing D α k r f ad)) (hy0 : r < 1000) : Met l yX5_add (ws_ yX5_add cX5_add 6 none) ({ frames := 2, cells := 0, slots := 0, locals := 43 }) (gPre D A [.ref (α (k)), .int i1, .int i2, .int i3, .int i4] w) (gQ D A none (fun w1 => Blk w1 k (cRing D α k r ((f_X5_add r f ad i1 i2 i3 i4).2) ((f_X5_add r f ad i1 i2 i3 i4).1)) ∧ Same w w1 k 2)) 0 0 A := by
  refine g_met [(0, .ref (α (k))), (1, .int i1), (2, .int i2), (3, .int i3), (4, .int i4)] (plainFor_of_name (by decide)) (Nat.le_of_ble_eq_true rfl) rfl (fun pg en s mi ar below me co ls S hK hP hD hE hS hr hlk hnm hl => ?_)
  have hF : Same w w k 2 := Same.rf
  refine lv_aload_n S.1 S.2.1 dX5_add_0 rfl (lv_at hl 0 rfl) ?_
  refine lv_aload_n S.1 S.2.1 dX5_add_1 rfl (lv_at hl 0 rfl) ?_
  refine g_get (v := .int ad) S hK hP (hB0 0 _ rfl) rfl inX5 2 (by decide) qw172 rfl dX5_add_2 ?_
  refine g_aftR0 (st1 := [.int (f_X5_placeOf r ad)]) (g_V (As := [.int ad]) (rest := []) S mi_X5_placeOf qw455 (c_X5_placeOf l D A w α (k) r f ad ad hB0) hK hP hD hE hS (hB0 0 _ rfl) rfl rfl rfl hl.1 (Nat.le_of_ble_eq_true rfl) rfl rfl ⟨(Nat.le_of_ble_eq_true rfl), (Nat.le_of_ble_eq_true rfl)⟩ ⟨(Nat.le_of_ble_eq_true rfl), (Nat.le_of_ble_eq_true rfl)⟩ dX5_add_5) hS rfl (fun locs hS => ?_)
  refine lv_istore (lv' := [(5, .int (f_X5_placeOf r ad)), (0, .ref (α (k))), (1, .int i1), (2, .int i2), (3, .int i3), (4, .int i4)]) S.1 S.2.1 dX5_add_8 hl (by decide) rfl (fun ls hl => ?_)
  refine lv_aload_n S.1 S.2.1 dX5_add_10 rfl (lv_at hl 1 rfl) ?_
  refine g_get (v := .ref (α (k + 1))) S hK hP (hB0 0 _ rfl) rfl inX5 1 (by decide) qw171 rfl dX5_add_11 ?_
  refine lv_iload S.1 S.2.1 dX5_add_14 (lv_at hl 0 rfl) ?_
  refine lv_iload_n S.1 S.2.1 dX5_add_16 rfl (lv_at hl 2 rfl) ?_
  refine g_aft0 (st1 := []) (g_SN (As := [.ref (α (k + 1)), .int (f_X5_placeOf r ad), .int i1]) (rest := []) S ms_X11_setCell qn_RX5_39 (c_X11_setCell l D A w α (k + 1) (4 * r) f (f_X5_placeOf r ad) i1 (hB0 1 _ rfl) (by first | assumption | exact vin_d (by decide) | exact vp_in_nI (by omega) (by decide) | decide | omega)) hK hP hD hE hS rfl rfl hl.1 (Nat.le_of_ble_eq_true rfl) rfl rfl ⟨(Nat.le_of_ble_eq_true rfl), (Nat.le_of_ble_eq_true rfl)⟩ ⟨(Nat.le_of_ble_eq_true rfl), (Nat.le_of_ble_eq_true rfl)⟩ dX5_add_17) hS rfl (fun w1 H locs hQ hP hD hS => ?_)
  have hw := hQ
  have hF := Same.set hF 1 hw (by decide)
  have hB0 : Blk w1 k (cRing D α k r (f_X11_setCell (4 * r) f (f_X5_placeOf r ad) i1) ad) := hB0.set 1 hw (Nat.le_of_ble_eq_true rfl) rfl
  refine lv_aload_n S.1 S.2.1 dX5_add_20 rfl (lv_at hl 1 rfl) ?_
  refine g_get (v := .ref (α (k + 1))) S hK hP (hB0 0 _ rfl) rfl inX5 1 (by decide) qw171 rfl dX5_add_21 ?_
  refine lv_iload S.1 S.2.1 dX5_add_24 (lv_at hl 0 rfl) ?_
  refine lv_iconst (v := 1) S.1 S.2.1 dX5_add_26 (by decide) ?_
  refine lv_iadd S.1 S.2.1 dX5_add_27 ?_
  refine lv_iload_n S.1 S.2.1 dX5_add_28 rfl (lv_at hl 3 rfl) ?_
  refine g_aft0 (st1 := []) (g_SN (As := [.ref (α (k + 1)), .int ((f_X5_placeOf r ad) + 1), .int i2]) (rest := []) S ms_X11_setCell qn_RX5_39 (c_X11_setCell l D A w1 α (k + 1) (4 * r) (f_X11_setCell (4 * r) f (f_X5_placeOf r ad) i1) ((f_X5_placeOf r ad) + 1) i2 (hB0 1 _ rfl) (by first | assumption | exact vin_d (by decide) | exact vp_in_nI (by omega) (by decide) | decide | omega)) hK hP hD hE hS rfl rfl hl.1 (Nat.le_of_ble_eq_true rfl) rfl rfl ⟨(Nat.le_of_ble_eq_true rfl), (Nat.le_of_ble_eq_true rfl)⟩ ⟨(Nat.le_of_ble_eq_true rfl), (Nat.le_of_ble_eq_true rfl)⟩ dX5_add_29) hS rfl (fun w2 H locs hQ hP hD hS => ?_)
  have hw := hQ
  have hF := Same.set hF 1 hw (by decide)
  have hB0 : Blk w2 k (cRing D α k r (f_X11_setCell (4 * r) (f_X11_setCell (4 * r) f (f_X5_placeOf r ad) i1) ((f_X5_placeOf r ad) + 1) i2) ad) := hB0.set 1 hw (Nat.le_of_ble_eq_true rfl) rfl
  refine lv_aload_n S.1 S.2.1 dX5_add_32 rfl (lv_at hl 1 rfl) ?_
  refine g_get (v := .ref (α (k + 1))) S hK hP (hB0 0 _ rfl) rfl inX5 1 (by decide) qw171 rfl dX5_add_33 ?_
  refine lv_iload S.1 S.2.1 dX5_add_36 (lv_at hl 0 rfl) ?_
  refine lv_iconst (v := 2) S.1 S.2.1 dX5_add_38 (by decide) ?_
  refine lv_iadd S.1 S.2.1 dX5_add_39 ?_
  refine lv_iload_n S.1 S.2.1 dX5_add_40 rfl (lv_at hl 4 rfl) ?_
  refine g_aft0 (st1 := []) (g_SN (As := [.ref (α (k + 1)), .int ((f_X5_placeOf r ad) + 2), .int i3]) (rest := []) S ms_X11_setCell qn_RX5_39 (c_X11_setCell l D A w2 α (k + 1) (4 * r) (f_X11_setCell (4 * r) (f_X11_setCell (4 * r) f (f_X5_placeOf r ad) i1) ((f_X5_placeOf r ad) + 1) i2) ((f_X5_placeOf r ad) + 2) i3 (hB0 1 _ rfl) (by first | assumption | exact vin_d (by decide) | exact vp_in_nI (by omega) (by decide) | decide | omega)) hK hP hD hE hS rfl rfl hl.1 (Nat.le_of_ble_eq_true rfl) rfl rfl ⟨(Nat.le_of_ble_eq_true rfl), (Nat.le_of_ble_eq_true rfl)⟩ ⟨(Nat.le_of_ble_eq_true rfl), (Nat.le_of_ble_eq_true rfl)⟩ dX5_add_41) hS rfl (fun w3 H locs hQ hP hD hS => ?_)
  have hw := hQ
  have hF := Same.set hF 1 hw (by decide)
  have hB0 : Blk w3 k (cRing D α k r (f_X11_setCell (4 * r) (f_X11_setCell (4 * r) (f_X11_setCell (4 * r) f (f_X5_placeOf r ad) i1) ((f_X5_placeOf r ad) + 1) i2) ((f_X5_placeOf r ad) + 2) i3) ad) := hB0.set 1 hw (Nat.le_of_ble_eq_true rfl) rfl
  refine lv_aload_n S.1 S.2.1 dX5_add_44 rfl (lv_at hl 1 rfl) ?_
  refine g_get (v := .ref (α (k + 1))) S hK hP (hB0 0 _ rfl) rfl inX5 1 (by decide) qw171 rfl dX5_add_45 ?_
  refine lv_iload S.1 S.2.1 dX5_add_48 (lv_at hl 0 rfl) ?_
  refine lv_iconst (v := 3) S.1 S.2.1 dX5_add_50 (by decide) ?_
  refine lv_iadd S.1 S.2.1 dX5_add_51 ?_
  refine lv_iload S.1 S.2.1 dX5_add_52 (lv_at hl 5 rfl) ?_
  refine g_aft0 (st1 := []) (g_SN (As := [.ref (α (k + 1)), .int ((f_X5_placeOf r ad) + 3), .int i4]) (rest := []) S ms_X11_setCell qn_RX5_39 (c_X11_setCell l D A w3 α (k + 1) (4 * r) (f_X11_setCell (4 * r) (f_X11_setCell (4 * r) (f_X11_setCell (4 * r) f (f_X5_placeOf r ad) i1) ((f_X5_placeOf r ad) + 1) i2) ((f_X5_placeOf r ad) + 2) i3) ((f_X5_placeOf r ad) + 3) i4 (hB0 1 _ rfl) (by first | assumption | exact vin_d (by decide) | exact vp_in_nI (by omega) (by decide) | decide | omega)) hK hP hD hE hS rfl rfl hl.1 (Nat.le_of_ble_eq_true rfl) rfl rfl ⟨(Nat.le_of_ble_eq_true rfl), (Nat.le_of_ble_eq_true rfl)⟩ ⟨(Nat.le_of_ble_eq_true rfl), (Nat.le_of_ble_eq_true rfl)⟩ dX5_add_54) hS rfl (fun w4 H locs hQ hP hD hS => ?_)
  have hw := hQ
  have hF := Same.set hF 1 hw (by decide)
  have hB0 : Blk w4 k (cRing D α k r (f_X11_setCell (4 * r) (f_X11_setCell (4 * r) (f_X11_setCell (4 * r) (f_X11_setCell (4 * r) f (f_X5_placeOf r ad) i1) ((f_X5_placeOf r ad) + 1) i2) ((f_X5_placeOf r ad) + 2) i3) ((f_X5_placeOf r ad) + 3) i4) ad) := hB0.set 1 hw (Nat.le_of_ble_eq_true rfl) rfl
  refine lv_aload_n S.1 S.2.1 dX5_add_57 rfl (lv_at hl 1 rfl) ?_
  refine lv_dup S.1 S.2.1 dX5_add_58 rfl ?_
  refine g_get (v := .int ad) S hK hP (hB0 0 _ rfl) rfl inX5 2 (by decide) qw172 rfl dX5_add_59 ?_
  refine lv_iconst (v := 1) S.1 S.2.1 dX5_add_62 (by decide) ?_
  refine lv_iadd S.1 S.2.1 dX5_add_63 ?_
  refine g_put S hK hP hD hS (hB0 0 _ rfl) rfl inX5 tyX5_ok nmX5 2 (by decide) qw172 rfl rfl rfl (Nat.le_of_ble_eq_true rfl) dX5_add_64 (fun w5 H locs hw hP hD hS => ?_)
  have hF := Same.set hF 0 hw (by decide)
  have hB0 : Blk w5 k (cRing D α k r (f_X11_setCell (4 * r) (f_X11_setCell (4 * r) (f_X11_setCell (4 * r) (f_X11_setCell (4 * r) f (f_X5_placeOf r ad) i1) ((f_X5_placeOf r ad) + 1) i2) ((f_X5_placeOf r ad) + 2) i3) ((f_X5_placeOf r ad) + 3) i4) (ad + 1)) := hB0.set 0 hw (Nat.le_of_ble_eq_true rfl) rfl
  have hf : (f_X5_add r f ad i1 i2 i3 i4) = ((ad + 1), (f_X11_setCell (4 * r) (f_X11_setCell (4 * r) (f_X11_setCell (4 * r) (f_X11_setCell (4 * r) f (f_X5_placeOf r ad) i1) ((f_X5_placeOf r ad) + 1) i2) ((f_X5_placeOf r ad) + 2) i3) ((f_X5_placeOf r ad) + 3) i4)) := rfl
  exact g_vret S hr hlk hP hD hS (rfl) (⟨by rw [hf]; exact hB0, hF⟩) dX5_add_67
def f_X5_has (r : Nat) (ad : Int32) (row : Int32) : Bool := (if row < (f_X5_oldest r ad) then false else (if ad ≤ row then false else true))
set_option maxHeartbeats 4000000 in
set_option maxRecDepth 100000 in
theorem c_X5_has (l : Launch) (D : va_G) (A : Nat → Prop) (w : va_W) (α : Nat → Nat) (k : Nat) (r : Nat) (f : Nat → Int32) (ad : Int32) (row : Int32) (hB0 : Blk w k (cRing D α k r f ad)) : Met l yX5_has (ws_ yX5_has cX5_has 2 (some .boolean)) ({ frames := 2, cells := 0, slots := 0, locals := 33 }) (gPre D A [.ref (α (k)), .int row] w) (gR (some (.int (b2i (f_X5_has r ad row))))) 0 0 A := by
  refine g_met [(0, .ref (α (k))), (1, .int row)] (plainFor_of_name (by decide)) (Nat.le_of_ble_eq_true rfl) rfl (fun pg en s mi ar below me co ls S hK hP hD hE hS hr hlk hnm hl => ?_)
  refine lv_iload_n S.1 S.2.1 dX5_has_0 rfl (lv_at hl 1 rfl) ?_
  refine lv_aload_n S.1 S.2.1 dX5_has_1 rfl (lv_at hl 0 rfl) ?_
  refine g_aftR0 (st1 := [.int (f_X5_oldest r ad), .int row]) (g_V (As := []) (rest := [.int row]) S mi_X5_oldest qw1257 (c_X5_oldest l D A w α (k) r f ad hB0) hK hP hD hE hS (hB0 0 _ rfl) rfl rfl rfl hl.1 (Nat.le_of_ble_eq_true rfl) rfl rfl ⟨(Nat.le_of_ble_eq_true rfl), (Nat.le_of_ble_eq_true rfl)⟩ ⟨(Nat.le_of_ble_eq_true rfl), (Nat.le_of_ble_eq_true rfl)⟩ dX5_has_2) hS rfl (fun locs hS => ?_)
  refine lv_icmp_lt (tgt := 20) S.1 S.2.1 dX5_has_5 (by decide) (fun (c1 : row < (f_X5_oldest r ad)) => ?_) (fun (c1 : ¬ row < (f_X5_oldest r ad)) => ?_)
  · refine lv_iconst (v := 0) S.1 S.2.1 dX5_has_20 (by decide) ?_
    have hf : (f_X5_has r ad row) = false := if_pos c1
    exact g_zretR S hr hlk hS rfl (by rw [hf] <;> rfl) dX5_has_21
  · refine lv_iload_n S.1 S.2.1 dX5_has_8 rfl (lv_at hl 1 rfl) ?_
    refine lv_aload_n S.1 S.2.1 dX5_has_9 rfl (lv_at hl 0 rfl) ?_
    refine g_get (v := .int ad) S hK hP (hB0 0 _ rfl) rfl inX5 2 (by decide) qw172 rfl dX5_has_10 ?_
    refine lv_icmp_ge (tgt := 20) S.1 S.2.1 dX5_has_13 (by decide) (fun (c2 : ad ≤ row) => ?_) (fun (c2 : ¬ ad ≤ row) => ?_)
    · refine lv_iconst (v := 0) S.1 S.2.1 dX5_has_20 (by decide) ?_
      have hf : (f_X5_has r ad row) = false := (if_neg c1).trans (if_pos c2)
      exact g_zretR S hr hlk hS rfl (by rw [hf] <;> rfl) dX5_has_21
    · refine lv_iconst (v := 1) S.1 S.2.1 dX5_has_16 (by decide) ?_
      refine lv_goto (tgt := 21) S.1 S.2.1 dX5_has_17 (by decide) ?_
      have hf : (f_X5_has r ad row) = true := (if_neg c1).trans (if_neg c2)
      exact g_zretR S hr hlk hS rfl (by rw [hf] <;> rfl) dX5_has_21
def f_X5_part (r : Nat) (f : Nat → Int32) (ad : Int32) (row : Int32) (what : Int32) : Int32 := (bif (f_X5_has r ad row) then (bif (f_X11_isIn what 4) then (f_X11_cell (4 * r) f ((f_X5_placeOf r row) + what) (-2)) else (-2)) else (-2))
set_option maxHeartbeats 4000000 in
set_option maxRecDepth 100000 in
theorem c_X5_part (l : Launch) (D : va_G) (A : Nat → Prop) (w : va_W) (α : Nat → Nat) (k : Nat) (r : Nat) (f : Nat → Int32) (ad : Int32) (row : Int32) (what : Int32) (hB0 : Blk w k (cRing D α k r f ad)) (hy0 : r < 1000) : Met l yX5_part (ws_ yX5_part cX5_part 3 (some .int)) ({ frames := 3, cells := 0, slots := 0, locals := 54 }) (gPre D A [.ref (α (k)), .int row, .int what] w) (gR (some (.int (f_X5_part r f ad row what)))) 0 0 A := by
  refine g_met [(0, .ref (α (k))), (1, .int row), (2, .int what)] (plainFor_of_name (by decide)) (Nat.le_of_ble_eq_true rfl) rfl (fun pg en s mi ar below me co ls S hK hP hD hE hS hr hlk hnm hl => ?_)
  refine lv_aload_n S.1 S.2.1 dX5_part_0 rfl (lv_at hl 0 rfl) ?_
  refine lv_iload_n S.1 S.2.1 dX5_part_1 rfl (lv_at hl 1 rfl) ?_
  refine g_aftR0 (st1 := [.int (b2i (f_X5_has r ad row))]) (g_V (As := [.int row]) (rest := []) S mi_X5_has qw1253 (c_X5_has l D A w α (k) r f ad row hB0) hK hP hD hE hS (hB0 0 _ rfl) rfl rfl rfl hl.1 (Nat.le_of_ble_eq_true rfl) rfl rfl ⟨(Nat.le_of_ble_eq_true rfl), (Nat.le_of_ble_eq_true rfl)⟩ ⟨(Nat.le_of_ble_eq_true rfl), (Nat.le_of_ble_eq_true rfl)⟩ dX5_part_2) hS rfl (fun locs hS => ?_)
  refine g_bifeq (b := (f_X5_has r ad row)) (tgt := 16) S dX5_part_5 (by decide) (fun (c1 : (f_X5_has r ad row) = false) => ?_) (fun (c1 : (f_X5_has r ad row) = true) => ?_)
  · refine lv_bipush (v := (-2)) S.1 S.2.1 dX5_part_16 (by decide) ?_
    have hf : (f_X5_part r f ad row what) = (-2) := cd_f c1
    exact g_iretR S hr hlk hS (by rw [hf] <;> rfl) dX5_part_18
  · refine lv_iload_n S.1 S.2.1 dX5_part_8 rfl (lv_at hl 2 rfl) ?_
    refine lv_iconst (v := 4) S.1 S.2.1 dX5_part_9 (by decide) ?_
    refine g_aftR0 (st1 := [.int (b2i (f_X11_isIn what 4))]) (g_SN (As := [.int what, .int 4]) (rest := []) S ms_X11_isIn qn_RX5_51 (c_X11_isIn l D A w α what 4) hK hP hD hE hS rfl rfl hl.1 (Nat.le_of_ble_eq_true rfl) rfl rfl ⟨(Nat.le_of_ble_eq_true rfl), (Nat.le_of_ble_eq_true rfl)⟩ ⟨(Nat.le_of_ble_eq_true rfl), (Nat.le_of_ble_eq_true rfl)⟩ dX5_part_10) hS rfl (fun locs hS => ?_)
    refine g_bifne (b := (f_X11_isIn what 4)) (tgt := 19) S dX5_part_13 (by decide) (fun (c2 : (f_X11_isIn what 4) = true) => ?_) (fun (c2 : (f_X11_isIn what 4) = false) => ?_)
    · refine lv_aload_n S.1 S.2.1 dX5_part_19 rfl (lv_at hl 0 rfl) ?_
      refine g_get (v := .ref (α (k + 1))) S hK hP (hB0 0 _ rfl) rfl inX5 1 (by decide) qw171 rfl dX5_part_20 ?_
      refine lv_aload_n S.1 S.2.1 dX5_part_23 rfl (lv_at hl 0 rfl) ?_
      refine lv_iload_n S.1 S.2.1 dX5_part_24 rfl (lv_at hl 1 rfl) ?_
      refine g_aftR0 (st1 := [.int (f_X5_placeOf r row), .ref (α (k + 1))]) (g_V (As := [.int row]) (rest := [.ref (α (k + 1))]) S mi_X5_placeOf qw455 (c_X5_placeOf l D A w α (k) r f ad row hB0) hK hP hD hE hS (hB0 0 _ rfl) rfl rfl rfl hl.1 (Nat.le_of_ble_eq_true rfl) rfl rfl ⟨(Nat.le_of_ble_eq_true rfl), (Nat.le_of_ble_eq_true rfl)⟩ ⟨(Nat.le_of_ble_eq_true rfl), (Nat.le_of_ble_eq_true rfl)⟩ dX5_part_25) hS rfl (fun locs hS => ?_)
      refine lv_iload_n S.1 S.2.1 dX5_part_28 rfl (lv_at hl 2 rfl) ?_
      refine lv_iadd S.1 S.2.1 dX5_part_29 ?_
      refine lv_bipush (v := (-2)) S.1 S.2.1 dX5_part_30 (by decide) ?_
      refine g_aftR0 (st1 := [.int (f_X11_cell (4 * r) f ((f_X5_placeOf r row) + what) (-2))]) (g_SN (As := [.ref (α (k + 1)), .int ((f_X5_placeOf r row) + what), .int (-2)]) (rest := []) S ms_X11_cell qn_RX5_55 (c_X11_cell l D A w α (k + 1) (4 * r) f ((f_X5_placeOf r row) + what) (-2) (hB0 1 _ rfl) (by first | assumption | exact vin_d (by decide) | exact vp_in_nI (by omega) (by decide) | decide | omega)) hK hP hD hE hS rfl rfl hl.1 (Nat.le_of_ble_eq_true rfl) rfl rfl ⟨(Nat.le_of_ble_eq_true rfl), (Nat.le_of_ble_eq_true rfl)⟩ ⟨(Nat.le_of_ble_eq_true rfl), (Nat.le_of_ble_eq_true rfl)⟩ dX5_part_32) hS rfl (fun locs hS => ?_)
      have hf : (f_X5_part r f ad row what) = (f_X11_cell (4 * r) f ((f_X5_placeOf r row) + what) (-2)) := (cd_t c1).trans (cd_t c2)
      exact g_iretR S hr hlk hS (by rw [hf] <;> rfl) dX5_part_35
    · refine lv_bipush (v := (-2)) S.1 S.2.1 dX5_part_16 (by decide) ?_
      have hf : (f_X5_part r f ad row what) = (-2) := (cd_t c1).trans (cd_f c2)
      exact g_iretR S hr hlk hS (by rw [hf] <;> rfl) dX5_part_18
def f_X5_setPart (r : Nat) (f : Nat → Int32) (ad : Int32) (row : Int32) (what : Int32) (v : Int32) : (Nat → Int32) := (bif (f_X5_has r ad row) then (bif (f_X11_isIn what 4) then (f_X11_setCell (4 * r) f ((f_X5_placeOf r row) + what) v) else f) else f)
set_option maxHeartbeats 4000000 in
set_option maxRecDepth 100000 in
theorem c_X5_setPart (l : Launch) (D : va_G) (A : Nat → Prop) (w : va_W) (α : Nat → Nat) (k : Nat) (r : Nat) (f : Nat → Int32) (ad : Int32) (row : Int32) (what : Int32) (v : Int32) (hB0 : Blk w k (cRing D α k r f ad)) (hy0 : r < 1000) : Met l yX5_setPart (ws_ yX5_setPart cX5_setPart 4 none) ({ frames := 3, cells := 0, slots := 0, locals := 54 }) (gPre D A [.ref (α (k)), .int row, .int what, .int v] w) (gQ D A none (fun w1 => Blk w1 k (cRing D α k r (f_X5_setPart r f ad row what v) ad) ∧ Same w w1 k 2)) 0 0 A := by
  refine g_met [(0, .ref (α (k))), (1, .int row), (2, .int what), (3, .int v)] (plainFor_of_name (by decide)) (Nat.le_of_ble_eq_true rfl) rfl (fun pg en s mi ar below me co ls S hK hP hD hE hS hr hlk hnm hl => ?_)
  have hF : Same w w k 2 := Same.rf
  refine lv_aload_n S.1 S.2.1 dX5_setPart_0 rfl (lv_at hl 0 rfl) ?_
  refine lv_iload_n S.1 S.2.1 dX5_setPart_1 rfl (lv_at hl 1 rfl) ?_
  refine g_aftR0 (st1 := [.int (b2i (f_X5_has r ad row))]) (g_V (As := [.int row]) (rest := []) S mi_X5_has qw1253 (c_X5_has l D A w α (k) r f ad row hB0) hK hP hD hE hS (hB0 0 _ rfl) rfl rfl rfl hl.1 (Nat.le_of_ble_eq_true rfl) rfl rfl ⟨(Nat.le_of_ble_eq_true rfl), (Nat.le_of_ble_eq_true rfl)⟩ ⟨(Nat.le_of_ble_eq_true rfl), (Nat.le_of_ble_eq_true rfl)⟩ dX5_setPart_2) hS rfl (fun locs hS => ?_)
  refine g_bifeq (b := (f_X5_has r ad row)) (tgt := 31) S dX5_setPart_5 (by decide) (fun (c1 : (f_X5_has r ad row) = false) => ?_) (fun (c1 : (f_X5_has r ad row) = true) => ?_)
  · have hf : (f_X5_setPart r f ad row what v) = f := cd_f c1
    exact g_vret S hr hlk hP hD hS (rfl) (⟨by rw [hf]; exact hB0, hF⟩) dX5_setPart_31
  · refine lv_iload_n S.1 S.2.1 dX5_setPart_8 rfl (lv_at hl 2 rfl) ?_
    refine lv_iconst (v := 4) S.1 S.2.1 dX5_setPart_9 (by decide) ?_
    refine g_aftR0 (st1 := [.int (b2i (f_X11_isIn what 4))]) (g_SN (As := [.int what, .int 4]) (rest := []) S ms_X11_isIn qn_RX5_51 (c_X11_isIn l D A w α what 4) hK hP hD hE hS rfl rfl hl.1 (Nat.le_of_ble_eq_true rfl) rfl rfl ⟨(Nat.le_of_ble_eq_true rfl), (Nat.le_of_ble_eq_true rfl)⟩ ⟨(Nat.le_of_ble_eq_true rfl), (Nat.le_of_ble_eq_true rfl)⟩ dX5_setPart_10) hS rfl (fun locs hS => ?_)
    refine g_bifeq (b := (f_X11_isIn what 4)) (tgt := 31) S dX5_setPart_13 (by decide) (fun (c2 : (f_X11_isIn what 4) = false) => ?_) (fun (c2 : (f_X11_isIn what 4) = true) => ?_)
    · have hf : (f_X5_setPart r f ad row what v) = f := (cd_t c1).trans (cd_f c2)
      exact g_vret S hr hlk hP hD hS (rfl) (⟨by rw [hf]; exact hB0, hF⟩) dX5_setPart_31
    · refine lv_aload_n S.1 S.2.1 dX5_setPart_16 rfl (lv_at hl 0 rfl) ?_
      refine g_get (v := .ref (α (k + 1))) S hK hP (hB0 0 _ rfl) rfl inX5 1 (by decide) qw171 rfl dX5_setPart_17 ?_
      refine lv_aload_n S.1 S.2.1 dX5_setPart_20 rfl (lv_at hl 0 rfl) ?_
      refine lv_iload_n S.1 S.2.1 dX5_setPart_21 rfl (lv_at hl 1 rfl) ?_
      refine g_aftR0 (st1 := [.int (f_X5_placeOf r row), .ref (α (k + 1))]) (g_V (As := [.int row]) (rest := [.ref (α (k + 1))]) S mi_X5_placeOf qw455 (c_X5_placeOf l D A w α (k) r f ad row hB0) hK hP hD hE hS (hB0 0 _ rfl) rfl rfl rfl hl.1 (Nat.le_of_ble_eq_true rfl) rfl rfl ⟨(Nat.le_of_ble_eq_true rfl), (Nat.le_of_ble_eq_true rfl)⟩ ⟨(Nat.le_of_ble_eq_true rfl), (Nat.le_of_ble_eq_true rfl)⟩ dX5_setPart_22) hS rfl (fun locs hS => ?_)
      refine lv_iload_n S.1 S.2.1 dX5_setPart_25 rfl (lv_at hl 2 rfl) ?_
      refine lv_iadd S.1 S.2.1 dX5_setPart_26 ?_
      refine lv_iload_n S.1 S.2.1 dX5_setPart_27 rfl (lv_at hl 3 rfl) ?_
      refine g_aft0 (st1 := []) (g_SN (As := [.ref (α (k + 1)), .int ((f_X5_placeOf r row) + what), .int v]) (rest := []) S ms_X11_setCell qn_RX5_39 (c_X11_setCell l D A w α (k + 1) (4 * r) f ((f_X5_placeOf r row) + what) v (hB0 1 _ rfl) (by first | assumption | exact vin_d (by decide) | exact vp_in_nI (by omega) (by decide) | decide | omega)) hK hP hD hE hS rfl rfl hl.1 (Nat.le_of_ble_eq_true rfl) rfl rfl ⟨(Nat.le_of_ble_eq_true rfl), (Nat.le_of_ble_eq_true rfl)⟩ ⟨(Nat.le_of_ble_eq_true rfl), (Nat.le_of_ble_eq_true rfl)⟩ dX5_setPart_28) hS rfl (fun w1 H locs hQ hP hD hS => ?_)
      have hw := hQ
      have hF := Same.set hF 1 hw (by decide)
      have hB0 : Blk w1 k (cRing D α k r (f_X11_setCell (4 * r) f ((f_X5_placeOf r row) + what) v) ad) := hB0.set 1 hw (Nat.le_of_ble_eq_true rfl) rfl
      have hf : (f_X5_setPart r f ad row what v) = (f_X11_setCell (4 * r) f ((f_X5_placeOf r row) + what) v) := (cd_t c1).trans (cd_t c2)
      exact g_vret S hr hlk hP hD hS (rfl) (⟨by rw [hf]; exact hB0, hF⟩) dX5_setPart_31
