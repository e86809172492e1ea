/-! THE LAW: loads -/
theorem ln_st {a b : List Nat} {r k c d : Nat} (h1 : a.length ≤ k) (h2 : b.length ≤ r + c) (hd : c + k = d) : (a ++ b).length ≤ r + d := by
  rw [List.length_append]
  omega
theorem ln_kw : ∀ x, x < 10 → (kwN x).length ≤ 8 := fun x hx => (kwN_ok x hx).2.2.1
theorem nlL_len {w : Nat → List Nat} (h : ∀ i, i < 10 → (w i).length ≤ 3) (R : List Nat) : (nlL w R).length ≤ R.length + 103 := by
  have s1 : ([32] : List Nat).length ≤ 1 := Nat.le_refl _
  have q0 : (59 :: R).length ≤ R.length + 1 := Nat.le_of_eq (List.length_cons ..)
  have q1 := ln_st (a := w 9) (r := R.length) (k := 3) (c := 1) (d := 4) (h 9 (by decide)) q0 (by decide)
  have q2 := ln_st (a := [32]) (r := R.length) (k := 1) (c := 4) (d := 5) s1 q1 (by decide)
  have q3 := ln_st (a := kwN 6) (r := R.length) (k := 8) (c := 5) (d := 13) (ln_kw 6 (by decide)) q2 (by decide)
  have q4 := ln_st (a := [32]) (r := R.length) (k := 1) (c := 13) (d := 14) s1 q3 (by decide)
  have q5 := ln_st (a := w 8) (r := R.length) (k := 3) (c := 14) (d := 17) (h 8 (by decide)) q4 (by decide)
  have q6 := ln_st (a := [32]) (r := R.length) (k := 1) (c := 17) (d := 18) s1 q5 (by decide)
  have q7 := ln_st (a := kwN 5) (r := R.length) (k := 8) (c := 18) (d := 26) (ln_kw 5 (by decide)) q6 (by decide)
  have q8 := ln_st (a := [32]) (r := R.length) (k := 1) (c := 26) (d := 27) s1 q7 (by decide)
  have q9 := ln_st (a := w 7) (r := R.length) (k := 3) (c := 27) (d := 30) (h 7 (by decide)) q8 (by decide)
  have q10 := ln_st (a := [32]) (r := R.length) (k := 1) (c := 30) (d := 31) s1 q9 (by decide)
  have q11 := ln_st (a := kwN 4) (r := R.length) (k := 8) (c := 31) (d := 39) (ln_kw 4 (by decide)) q10 (by decide)
  have q12 := ln_st (a := [32]) (r := R.length) (k := 1) (c := 39) (d := 40) s1 q11 (by decide)
  have q13 := ln_st (a := w 6) (r := R.length) (k := 3) (c := 40) (d := 43) (h 6 (by decide)) q12 (by decide)
  have q14 := ln_st (a := [32]) (r := R.length) (k := 1) (c := 43) (d := 44) s1 q13 (by decide)
  have q15 := ln_st (a := kwN 3) (r := R.length) (k := 8) (c := 44) (d := 52) (ln_kw 3 (by decide)) q14 (by decide)
  have q16 := ln_st (a := [32]) (r := R.length) (k := 1) (c := 52) (d := 53) s1 q15 (by decide)
  have q17 := ln_st (a := w 5) (r := R.length) (k := 3) (c := 53) (d := 56) (h 5 (by decide)) q16 (by decide)
  have q18 := ln_st (a := [32]) (r := R.length) (k := 1) (c := 56) (d := 57) s1 q17 (by decide)
  have q19 := ln_st (a := kwN 2) (r := R.length) (k := 8) (c := 57) (d := 65) (ln_kw 2 (by decide)) q18 (by decide)
  have q20 := ln_st (a := [32]) (r := R.length) (k := 1) (c := 65) (d := 66) s1 q19 (by decide)
  have q21 := ln_st (a := w 4) (r := R.length) (k := 3) (c := 66) (d := 69) (h 4 (by decide)) q20 (by decide)
  have q22 := ln_st (a := [32]) (r := R.length) (k := 1) (c := 69) (d := 70) s1 q21 (by decide)
  have q23 := ln_st (a := w 3) (r := R.length) (k := 3) (c := 70) (d := 73) (h 3 (by decide)) q22 (by decide)
  have q24 := ln_st (a := [32]) (r := R.length) (k := 1) (c := 73) (d := 74) s1 q23 (by decide)
  have q25 := ln_st (a := w 2) (r := R.length) (k := 3) (c := 74) (d := 77) (h 2 (by decide)) q24 (by decide)
  have q26 := ln_st (a := [32]) (r := R.length) (k := 1) (c := 77) (d := 78) s1 q25 (by decide)
  have q27 := ln_st (a := w 1) (r := R.length) (k := 3) (c := 78) (d := 81) (h 1 (by decide)) q26 (by decide)
  have q28 := ln_st (a := [32]) (r := R.length) (k := 1) (c := 81) (d := 82) s1 q27 (by decide)
  have q29 := ln_st (a := kwN 1) (r := R.length) (k := 8) (c := 82) (d := 90) (ln_kw 1 (by decide)) q28 (by decide)
  have q30 := ln_st (a := [32]) (r := R.length) (k := 1) (c := 90) (d := 91) s1 q29 (by decide)
  have q31 := ln_st (a := w 0) (r := R.length) (k := 3) (c := 91) (d := 94) (h 0 (by decide)) q30 (by decide)
  have q32 := ln_st (a := [32]) (r := R.length) (k := 1) (c := 94) (d := 95) s1 q31 (by decide)
  have q33 := ln_st (a := kwN 0) (r := R.length) (k := 8) (c := 95) (d := 103) (ln_kw 0 (by decide)) q32 (by decide)
  exact q33
theorem btL_len (c : Nat → Nat) (R : List Nat) : ∀ m k, (btL c R m k).length = 7 * m + R.length := fun m => by
  induction m with
  | zero => exact fun k => by rw [Nat.mul_zero, Nat.zero_add]; rfl
  | succ m ih =>
    intro k
    show (kwN 7 ++ ([32] ++ ([96 + c k] ++ (59 :: btL c R m (k + 1))))).length = _
    rw [kwN_at.2.2.2.2.2.2.2.1]
    simp only [List.length_append, List.length_cons, List.length_nil, ih]
    omega
theorem peT_len (c cb o : Nat → Nat) : ∀ m k, (peT c cb o m k).length ≤ 14 * m := fun m => by
  induction m with
  | zero => exact fun _ => Nat.le_refl _
  | succ m ih =>
    intro k
    show (kwN 8 ++ ([32] ++ ([96 + c k] ++ (if o k = 0 then 59 :: peT c cb o m (k + 1) else [32] ++ (kwN 9 ++ ([32] ++ ([96 + cb (o k - 1)] ++ (59 :: peT c cb o m (k + 1))))))))).length ≤ _
    rw [kwN_at.2.2.2.2.2.2.2.2.1, kwN_at.2.2.2.2.2.2.2.2.2]
    have := ih (k + 1)
    by_cases q : o k = 0
    · rw [if_pos q]
      simp only [List.length_append, List.length_cons, List.length_nil]
      omega
    · rw [if_neg q]
      simp only [List.length_append, List.length_cons, List.length_nil]
      omega
theorem suT_ok {P B : Nat} {m c cb o : Nat → Nat} (hV : VIL P B m c cb o) : (suT P B m c cb o).length ≤ 760 ∧ ∀ x, x ∈ suT P B m c cb o → x < 128 := by
  constructor
  · have e1 := nlL_len (w := fun i => numL (nI (m i))) (fun i hi => (num_ok100 _ (hV.1.le i hi)).2.1) (btL cb (peT c cb o P 0) B 0)
    rw [btL_len] at e1
    have e2 := peT_len c cb o P 0
    have hP := hV.2.1.2
    have hB := hV.2.2.1
    unfold suT
    omega
  · have e := su_txt hV (nums := fun i => nI (m i)) (bn := fun b => nI (cb b * 2 ^ 25)) (pn := fun p => nI (c p * 2 ^ 25)) (bo := obS o) (fun _ _ => rfl) (fun _ _ => rfl) (fun _ _ => rfl) (fun _ _ => rfl)
    have h := (suL_ok (P := P) (B := B) (mNum := fun i => nI (m i)) (mNam := fun p => nI (c p * 2 ^ 25)) (mBnm := fun b => nI (cb b * 2 ^ 25)) (boatO := obS o) (by have := hV.2.1.2; omega) (by have := hV.2.2.1; omega)).2
    rw [e] at h
    exact h
/-- a list's characters, blanks behind -/
def chT (T : List Nat) (i : Nat) : Nat := if i < T.length then T.getD i 0 else 32
theorem chT_lt {T : List Nat} (h : ∀ x, x ∈ T → x < 128) (i : Nat) : chT T i < 128 := by
  unfold chT
  by_cases q : i < T.length
  · rw [if_pos q, List.getD_eq_getElem?_getD, List.getElem?_eq_getElem q]
    exact h _ (List.getElem_mem q)
  · rw [if_neg q]
    decide
def ldQ (D : va_G) (A : Nat → Prop) (α : Nat → Nat) (w0 : va_W) (N0 P B : Nat) (m c cb o : Nat → Nat) : Array Value → State → Outcome → State → Prop := gG A (fun V _ H1 => ∃ (v1 : VT) (w1 : va_W) (N1 Q1 : Nat), V = some (.int 1) ∧ OB D α w1 v1 ∧ LDV P B m c cb o v1 ∧ N1 ≤ N0 + 42 ∧ RA N1 P B Q1 v1 ∧ 234 ≤ w1.length ∧ Same w0 w1 0 234 ∧ va_P D vwCl w1 H1 ∧ va_D A w1)
set_option maxHeartbeats 4000000 in
set_option maxRecDepth 100000 in
theorem l_loads (l : Launch) (D : va_G) (A : Nat → Prop) (w : va_W) (α : Nat → Nat) {N0 P0 B0 Q0 : Nat} {v : VT} (hR : RA N0 P0 B0 Q0 v) (hN0 : N0 ≤ 550) (hB : OB D α w v) (hw : 234 ≤ w.length) {nH a x : Nat} {bs : Nat → Int32} {T : List Nat} (hA : ∀ q, nH ≤ q → A q) (hbs : ∀ j, j < T.length → bs j = nI (T.getD j 0)) {P B : Nat} {m c cb o : Nat → Nat} (hV : VIL P B m c cb o) (eT : T = suT P B m c cb o) : Met l yL_loads (ws_ yL_loads cL_loads 2 (Option.some Jvm.ClassFile.FieldType.boolean)) ({ frames := 11, cells := 40, slots := 200, locals := 260 } : Room) (gPx D A [.ref (α 0), .ref a] w (fun U H => nH ≤ H.size ∧ Tx A U H a x T.length bs)) (ldQ D A α w N0 P B m c cb o) 40 200 A := by
  refine g_metX [(0, .ref (α 0)), (1, .ref a)] (by decide +kernel) (Nat.le_of_ble_eq_true rfl) rfl (fun pg en s mi ar below me co ls S hK hP hD hE hS hx hr hlk hnm hl => ?_)
  have hk := suT_ok hV
  have hA : ∀ q, s.heap.size ≤ q → A q := fun q hq => hA q (Nat.le_trans hx.1 hq)
  refine lv_aload_n S.1 S.2.1 dL_loads_0 rfl (lv_at hl 0 rfl) ?_
  refine lv_aload_n S.1 S.2.1 dL_loads_1 rfl (lv_at hl 1 rfl) ?_
  refine x_aft (x_St (As := [.ref (α 0), .ref a]) (rest := []) S ms_L_write qw521 (l_write l D A w α (n := T.length) (ch := chT T) (nH := s.heap.size) hR hN0 hB hw hA (fun j hj => by rw [hbs j hj]; unfold chT; rw [if_pos hj]) (chT_lt (eT ▸ hk.2)) (fun i hi => if_neg (by omega)) (by rw [eT]; exact hk.1)) (stX_and stX_sz stX_tx) hK hP hD (hE.kept hS.2.1) ⟨Nat.le_refl _, hx.2⟩ rfl rfl hl.1 (Nat.le_of_ble_eq_true rfl) rfl rfl ⟨(Nat.le_of_ble_eq_true rfl), (Nat.le_of_ble_eq_true rfl)⟩ ⟨(Nat.le_of_ble_eq_true rfl), (Nat.le_of_ble_eq_true rfl)⟩ dL_loads_2) hS (fun _ h => h) (fun V H locs hq hz hk9 hS => ?_)
  obtain ⟨v1, w1, N1, rfl, hB1, ht, hN1, hR1, hw1, hs1, hP, hD⟩ := hq
  clear hz hk9
  obtain ⟨-, -, -, -, -, htl, htp⟩ := ht
  have hTP : TPT T (v_tp v1) := ⟨by rw [eT]; have := hk.1; omega, fun j hj => by rw [htp j hj]; unfold chT; rw [if_pos hj], eT ▸ hk.2⟩
  have hL : T.length ≤ 800 := hTP.1
  obtain ⟨dn, dbN, dpN, dfB, hC⟩ := k_load l D A w1 α (v := v1) (by rw [htl]; exact ⟨0, T.length, rfl, rfl, Nat.zero_le _, hL⟩) hB1
  have e1 := ld_ok hTP htl hV eT dn dbN dpN dfB
  obtain ⟨Q2, hR⟩ := ld_ra hR1 hTP htl hV eT dn dbN dpN dfB
  refine lv_aload_n S.1 S.2.1 dL_loads_5 rfl (lv_at hl 0 rfl) ?_
  refine x_aftQ (st1 := [.int (a_load (r_load v1 dn dbN dpN dfB))]) (x_V0 (As := []) (rest := []) S mi_X11_load qw600 hC hK hP hD (hE.kept hS.2.1) (hB1.recv hK hP) rfl rfl hl.1 (Nat.le_of_ble_eq_true rfl) rfl rfl ⟨(Nat.le_of_ble_eq_true rfl), (Nat.le_of_ble_eq_true rfl)⟩ ⟨(by show 0 + 40 + 0 ≤ 40; omega), (by show 0 + 200 + 0 ≤ 200; omega)⟩ dL_loads_6) hS (fun _ h => h) rfl (fun w2 H locs hq hP hD hz hk9 hS => ?_)
  obtain ⟨hB, hsm⟩ := hq
  clear hz hk9 hC
  rw [e1.1]
  have hLD := e1.2
  clear e1
  have hs2 := hs1.trans hsm
  have hw2 : 234 ≤ w2.length := by rw [hsm.1]; exact hw1
  generalize n_load (r_load v1 dn dbN dpN dfB) v1 = v2 at hLD hB hR
  have hN : N1 + 1 ≤ 600 := by omega
  have h2 : a_value v2 2 = nI P := by rw [av_2]; exact hLD.1
  have he : a_errorPosition v2 = -2 := hLD.2.2.2.2.2.2.1
  have hz0 : a_tapeLength v2 = 0 := hLD.2.2.2.2.2.2.2.1
  clear hsm hs1
  refine lv_aload_n S.1 S.2.1 dL_loads_9 rfl (lv_at hl 0 rfl) ?_
  refine lv_iconst (v := 2) S.1 S.2.1 dL_loads_10 (by decide) ?_
  refine x_aftQ (st1 := [.int (a_value v2 2), .int (nI P)]) (x_V0 (As := [.int 2]) (rest := [.int (nI P)]) S mi_X11_value qw725 (k_value l D A w2 α hR hN 2 hB) hK hP hD (hE.kept hS.2.1) (hB.recv hK hP) rfl rfl hl.1 (Nat.le_of_ble_eq_true rfl) rfl rfl ⟨(Nat.le_of_ble_eq_true rfl), (Nat.le_of_ble_eq_true rfl)⟩ ⟨(by show 0 + 40 + 0 ≤ 40; omega), (by show 0 + 200 + 0 ≤ 200; omega)⟩ dL_loads_11) hS (fun _ h => h) rfl (fun w3 H locs hq hP hD hz hk9 hS => ?_)
  obtain ⟨hB, hsm⟩ := hq
  clear hz hk9
  have hs2 := hs2.trans hsm
  have hw2 : 234 ≤ w3.length := by rw [hsm.1]; exact hw2
  rw [h2]
  refine lv_icmp_ne (tgt := 37) S.1 S.2.1 dL_loads_14 (by decide) (fun z9 => absurd (rfl) z9) (fun _ => ?_)
  refine lv_aload_n S.1 S.2.1 dL_loads_17 rfl (lv_at hl 0 rfl) ?_
  refine x_aftR (st1 := [.int (a_errorPosition v2)]) (x_V0 (As := []) (rest := []) S mi_X11_errorPosition qw833 (k_errorPosition l D A w3 α  hB) hK hP hD (hE.kept hS.2.1) (hB.recv hK hP) rfl rfl hl.1 (Nat.le_of_ble_eq_true rfl) rfl rfl ⟨(Nat.le_of_ble_eq_true rfl), (Nat.le_of_ble_eq_true rfl)⟩ ⟨(by show 0 + 40 + 0 ≤ 40; omega), (by show 0 + 200 + 0 ≤ 200; omega)⟩ dL_loads_18) hS (fun _ h => h) rfl (fun locs hS => ?_)
  refine lv_bipush (v := (-2)) S.1 S.2.1 dL_loads_21 (by decide) ?_
  refine lv_icmp_ne (tgt := 37) S.1 S.2.1 dL_loads_23 (by decide) (fun z9 => absurd (he) z9) (fun _ => ?_)
  refine lv_aload_n S.1 S.2.1 dL_loads_26 rfl (lv_at hl 0 rfl) ?_
  refine x_aftR (st1 := [.int (a_tapeLength v2)]) (x_V0 (As := []) (rest := []) S mi_X11_tapeLength qw524 (k_tapeLength l D A w3 α  hB) hK hP hD (hE.kept hS.2.1) (hB.recv hK hP) rfl rfl hl.1 (Nat.le_of_ble_eq_true rfl) rfl rfl ⟨(Nat.le_of_ble_eq_true rfl), (Nat.le_of_ble_eq_true rfl)⟩ ⟨(by show 0 + 40 + 0 ≤ 40; omega), (by show 0 + 200 + 0 ≤ 200; omega)⟩ dL_loads_27) hS (fun _ h => h) rfl (fun locs hS => ?_)
  refine lv_if_ne (tgt := 37) S.1 S.2.1 dL_loads_30 (by decide) (fun z9 => absurd (hz0) z9) (fun _ => ?_)
  refine lv_iconst (v := 1) S.1 S.2.1 dL_loads_33 (by decide) ?_
  refine lv_goto (tgt := 38) S.1 S.2.1 dL_loads_34 (by decide) ?_
  refine W.more (cells' := 40) (slots' := 200) ?_ (by omega) (by omega)
  exact x_nret S hr hlk hS rfl ⟨v2, w3, N1 + 1, Q2, rfl, hB, hLD, by omega, hR, hw2, hs2, hP, hD⟩ dL_loads_38
