/-! THE LAW: undone, its second half -/
/-- the setup is the law's own -/
def SVI (P B : Nat) (ms : List Nat) (v : VT) : Prop := NB (mL ms) ∧ P ≤ 19 ∧ B ≤ 3 ∧ (∀ i, i < 10 → v_nums v i = nuF ms i) ∧ (∀ b, b < B → v_bNames v b = bnF b) ∧ ∀ p, p < P → v_pNames v p = pnF p
theorem SVI.same {P B : Nat} {ms : List Nat} {v u : VT} (h : SVI P B ms v) (e : u.2.1 = v.2.1) : SVI P B ms u := by
  unfold SVI at h ⊢
  show NB (mL ms) ∧ P ≤ 19 ∧ B ≤ 3 ∧ (∀ i, i < 10 → u.2.1.1 i = nuF ms i) ∧ (∀ b, b < B → u.2.1.2.1 b = bnF b) ∧ ∀ p, p < P → u.2.1.2.2.1 p = pnF p
  rw [e]
  exact h
theorem sv_vil {P B : Nat} {ms : List Nat} {o : Nat → Nat} (hms : NB (mL ms)) (h2 : 2 ≤ P) (h9 : P ≤ 19) (hB : B ≤ 3) (ho : ∀ i, i < P → o i ≤ B) : VIL P B (mL ms) nmS nbS o := by
  refine ⟨hms, ⟨h2, by omega⟩, by omega, fun i hi => ?_, fun a b _ _ e => ?_, fun i hi => ?_, fun a b _ _ e => ?_, ho⟩
  · show 1 ≤ 1 + i ∧ 1 + i ≤ 26
    omega
  · have e2 : 1 + a = 1 + b := e
    omega
  · show 1 ≤ 24 + i ∧ 24 + i ≤ 26
    omega
  · have e2 : 24 + a = 24 + b := e
    omega
theorem sv_txt {N P B Q : Nat} {ms : List Nat} {v : VT} (hR : RA N P B Q v) (h : SVI P B ms v) : ∃ o, VIL P B (mL ms) nmS nbS o ∧ TLn (a_setupLength v) (a_setupByte v) (suT P B (mL ms) nmS nbS o) := by
  obtain ⟨h1, h2, h3, h4, h5, h6⟩ := h
  have hb : ∀ p, p < P → v_boatO v p = -2 ∨ ∃ b, v_boatO v p = nI b ∧ b < B := fun p hp => by
    obtain ⟨mTaped, mErr, mPpl, mBts, mUs, mTape, mNum, mNam, mFst, mBnm, mW, mUn, mSl, mKp, hR⟩ := hR
    rcases (hR.2.1.2.1 p hp).1.2 with z | z
    · exact .inl z
    · exact .inr ⟨(v_boatO v p).toNatClampNeg, vin_nI z⟩
  have hV := sv_vil (o := fun p => if v_boatO v p = -2 then 0 else (v_boatO v p).toNatClampNeg + 1) h1 (ra_nP hR).2.1 h2 h3 (fun p hp => by
    show (if v_boatO v p = -2 then 0 else (v_boatO v p).toNatClampNeg + 1) ≤ B
    rcases hb p hp with z | ⟨b, z, hb⟩
    · rw [if_pos z]
      exact Nat.zero_le _
    · have hm : ∀ b, b < 20 → ¬ nI b = -2 := by decide
      rw [z, if_neg (hm b (by omega)), nI_clamp (by omega)]
      omega)
  refine ⟨_, hV, ?_⟩
  have e := su_txt hV (nums := v_nums v) (bn := v_bNames v) (pn := v_pNames v) (bo := v_boatO v) h4 h5 h6 (fun p hp => by
    rcases hb p hp with z | ⟨b, z, hb⟩
    · rw [obS_0 (o := fun p => if v_boatO v p = -2 then 0 else (v_boatO v p).toNatClampNeg + 1) (i := p) (if_pos z)]
      exact z
    · have hm : ∀ b, b < 20 → ¬ nI b = -2 := by decide
      rw [obS_s (o := fun p => if v_boatO v p = -2 then 0 else (v_boatO v p).toNatClampNeg + 1) (i := p) (b := b) (by
        show (if v_boatO v p = -2 then 0 else (v_boatO v p).toNatClampNeg + 1) = b + 1
        rw [z, if_neg (hm b (by omega)), nI_clamp (by omega)])]
      exact z)
  have ht := tn_setup hR
  rw [e] at ht
  exact ht
def udQ (D : va_G) (A : Nat → Prop) (qa : Nat) : Array Value → State → Outcome → State → Prop := gG A (fun V _ H1 => ∃ (w1 : va_W) (y1 : Int32), V = some (.int 1) ∧ QW D 234 w1 qa y1 ∧ va_P D vwCl w1 H1 ∧ va_D A w1)
section UNE
variable {pg : Program} {l : Launch} {en : Env} {s : State} {mi : MethodId} {ar : Array Value} {below : List Frame} {me : Method} {co : Code} {Z : State → Prop} {H : Heap} {locs : List Loc} {ls : Array Slot} {D : va_G} {A : Nat → Prop} {α : Nat → Nat} {u : va_W} {v v0 : VT} {N N0 P B Q qa : Nat} {y : Int32} {wa wv wn n0 n1 n2 : Nat} {wf : Nat → Int32}
set_option maxHeartbeats 4000000 in
set_option maxRecDepth 100000 in
theorem ud_d (S : CallFix pg mi co cL_undone 7 s ar lw_all RL) (hK : va_K D vwCl (gTys D) s) (hE : EV D A s s.heap) (hA : ∀ q, s.heap.size ≤ q → A q) (hG : DGf A s s.heap) (hC : CN s) (hWL : BC wf wn (tolL v0 n0 n1 n2 P B)) (hwn : wn ≤ 10476) (hTX0 : TXT v0 n0 n1 n2) (hN0 : N0 ≤ 550) (hr : me.sig.returnType = some .boolean) (hlk : me.locks = false) {ms : List Nat} (hSV : SVI P B ms v) (hP : va_P D vwCl u H) (hD : va_D A u) (hS : va_S A s.heap H locs) (hB : OB D α u v) (hQ : QW D 234 u qa y) (hR : RA N P B Q v) (hW : Tx (va_A u H.size) s H wa wv wn wf) (h21 : v.2.1 = v0.2.1) (e1 : v.1 = v0.1) (hN : N ≤ N0 + 18) (hl : lv_has ls 7 [(5, .int 1), (2, .ref wa), (1, .ref qa), (0, .ref (α 0))]) : W pg l en ({ frames := 12, cells := 7600, slots := 290000, locals := 380 } : Room) s mi ar below me co H locs 4200 166400 (MQ below (udQ D A qa) ar s 7600 290000 A) (F0 mi 272 ls []) := by
  have hTX : TXT v n0 n1 n2 := TXT_same hTX0 e1 h21
  refine lv_iload S.1 S.2.1 dL_undone_272 (lv_at hl 0 rfl) ?_
  refine lv_if_eq (tgt := 292) S.1 S.2.1 dL_undone_274 (by decide) (fun z9 => absurd z9 (by decide)) (fun _ => ?_)
  refine lv_aload_n S.1 S.2.1 dL_undone_277 rfl (lv_at hl 3 rfl) ?_
  refine x_ownG (x_St (As := [.ref (α 0)]) (rest := []) S ms_L_told qw1398 (l_told l D (va_A u H.size) u α hR (by omega) hB (by have h9 := hQ.len; omega) (nH := H.size) (fun q hq => .inr hq) hTX (val_2 hR).1 (val_2 hR).2.2 (val_3 hR).1 (val_3 hR).2) (stX_and stX_sz (stX_and stX_cn stX_dg)) hK hP (wd_own hD) (hE.own hS hD hA) ⟨Nat.le_refl _, hC, hG.own hS hD hA⟩ rfl rfl hl.1 (Nat.le_of_ble_eq_true rfl) rfl rfl ⟨(Nat.le_of_ble_eq_true rfl), (Nat.le_of_ble_eq_true rfl)⟩ ⟨(Nat.le_of_ble_eq_true rfl), (Nat.le_of_ble_eq_true rfl)⟩ dL_undone_278) hS hD hA (fun V H locs hq hS hown => ?_)
  obtain ⟨a2, x2, k2, f2, u1, rfl, hL2, hn2, hu1, hB, hsm, hP, hD1⟩ := hq
  have hT2 := st_own S.2.2.2.2 hK hP hD1
  have hP := wp_left hP
  obtain ⟨hD, hkp⟩ := hown u1 (wd_left hD1)
  clear hown hD1 hu1
  have hW := hkp.2 _ _ _ _ hW
  clear hkp
  have hQ := hQ.same hsm (Nat.le_refl _)
  clear hsm
  obtain ⟨u, hue⟩ : ∃ u, u = u1 := ⟨_, rfl⟩
  rw [← hue] at hP hD hB hQ hW hT2
  clear hue
  rw [tolL_same e1 h21] at hL2
  obtain ⟨ek, he⟩ := hL2.eq hWL
  rw [ek] at hT2 he
  refine lv_aload_n S.1 S.2.1 dL_undone_281 rfl (lv_at hl 1 rfl) ?_
  refine x_aftR (st1 := [.int 1]) (x_V (As := [.ref wa]) (rest := []) S mi_J0_equals_9ea2d qw1589 (x_J0_equals_9ea2d l D (va_A u H.size) u a2 _ wa _ wn _ _ (by omega) he) (stX_and stX_tx stX_tx) hK hP (wd_own hD) (hE.own hS hD hA) ⟨hT2, hW⟩ hT2.recv rfl rfl hl.1 (Nat.le_of_ble_eq_true rfl) rfl rfl ⟨(Nat.le_of_ble_eq_true rfl), (Nat.le_of_ble_eq_true rfl)⟩ ⟨(Nat.le_of_ble_eq_true rfl), (Nat.le_of_ble_eq_true rfl)⟩ dL_undone_282) hS (wa_sub hD (fun q hq => hA q (Nat.le_trans hS.1 hq))) rfl (fun locs hS => ?_)
  clear he hT2 hW hL2
  refine lv_if_eq (tgt := 292) S.1 S.2.1 dL_undone_285 (by decide) (fun z9 => absurd z9 (by decide)) (fun _ => ?_)
  refine lv_iconst (v := 1) S.1 S.2.1 dL_undone_288 (by decide) ?_
  refine lv_goto (tgt := 293) S.1 S.2.1 dL_undone_289 (by decide) ?_
  refine lv_istore (lv' := [(5, .int 1), (2, .ref wa), (1, .ref qa), (0, .ref (α 0))]) S.1 S.2.1 dL_undone_293 hl (by decide) rfl (fun ls hl => ?_)
  have hu : 234 ≤ u.length := by have h9 := hQ.len; omega
  refine x_newSV S qw24 qw26 hK hP hD hE hS hA hl.1 (Nat.le_of_ble_eq_true rfl) ⟨(Nat.le_of_ble_eq_true rfl), (Nat.le_of_ble_eq_true rfl)⟩ ⟨(Nat.le_of_ble_eq_true rfl), (Nat.le_of_ble_eq_true rfl)⟩ dL_undone_295 dL_undone_298 dL_undone_299 (fun H locs αx x vx hBx hRx hxl hP hD hS hkp => ?_)
  clear hkp
  have hxl : 234 ≤ x.length := by omega
  refine lv_astore (lv' := [(6, .ref (αx 0)), (5, .int 1), (2, .ref wa), (1, .ref qa), (0, .ref (α 0))]) S.1 S.2.1 dL_undone_302 hl (by decide) rfl (fun ls hl => ?_)
  refine lv_iload S.1 S.2.1 dL_undone_304 (lv_at hl 1 rfl) ?_
  refine lv_if_eq (tgt := 367) S.1 S.2.1 dL_undone_306 (by decide) (fun z9 => absurd z9 (by decide)) (fun _ => ?_)
  refine lv_aload S.1 S.2.1 dL_undone_309 (lv_at hl 0 rfl) ?_
  refine lv_aload_n S.1 S.2.1 dL_undone_311 rfl (lv_at hl 4 rfl) ?_
  refine lv_iconst (v := 2) S.1 S.2.1 dL_undone_312 (by decide) ?_
  obtain ⟨o, hV, hTL⟩ := sv_txt hR hSV
  refine x_ownG (w := u ++ x) (x_St (As := [.ref (α 0), .int 2]) (rest := [.ref (αx 0)]) S ms_L_text qw1401 (l_text2 l D (va_A (u ++ x) H.size) (u ++ x) α hR (by omega) (hB.app hu) (by rw [List.length_append]; omega) (n0 := H.size) (fun q hq => .inr hq) hTL.1 hTL.2.1 hTL.ok) (stX_and stX_sz stX_cn) hK hP (wd_own hD) (hE.own hS hD hA) ⟨Nat.le_refl _, hC⟩ rfl rfl hl.1 (Nat.le_of_ble_eq_true rfl) rfl rfl ⟨(Nat.le_of_ble_eq_true rfl), (Nat.le_of_ble_eq_true rfl)⟩ ⟨(Nat.le_of_ble_eq_true rfl), (Nat.le_of_ble_eq_true rfl)⟩ dL_undone_313) hS hD hA (fun V H locs hq hS hown => ?_)
  obtain ⟨a3, x3, f3, w3, rfl, hf3, -, hB3, hsm, hP, hD1⟩ := hq
  obtain ⟨u3, rfl, hsu⟩ := w_same hsm hu
  have hT3 := st_own S.2.2.2.2 hK hP hD1
  have hP := wp_left hP
  obtain ⟨hD, hkp⟩ := hown (u3 ++ x) (wd_left hD1)
  clear hown hD1 hsm
  have hu : 234 ≤ u3.length := by rw [hsu.1]; exact hu
  have hB := hB3.left hu
  have hQ := hQ.same hsu (Nat.le_refl _)
  clear hsu
  clear hkp
  refine x_aft (x_St (As := [.ref (αx 0), .ref a3]) (rest := []) S ms_L_loads qw518 (l_loads l D (va_A x H.size) x αx hRx (by omega) hBx hxl (nH := H.size) (T := suT P B (mL ms) nmS nbS o) (fun q hq => .inr hq) (fun j hj => (hf3 j hj).trans (hTL.2.2 j hj).1) hV rfl) (stX_and stX_sz stX_tx) hK (wp_right hP) (wd_own (wd_right hD)) (hE.own hS (wd_right hD) hA) ⟨Nat.le_refl _, hT3.narrow wa_right⟩ rfl rfl hl.1 (Nat.le_of_ble_eq_true rfl) rfl rfl ⟨(Nat.le_of_ble_eq_true rfl), (Nat.le_of_ble_eq_true rfl)⟩ ⟨(Nat.le_of_ble_eq_true rfl), (Nat.le_of_ble_eq_true rfl)⟩ dL_undone_316) hS (wa_sub (wd_right hD) (fun q hq => hA q (Nat.le_trans hS.1 hq))) (fun V H locs hq hz hk hS1 => ?_)
  obtain ⟨vx1, x1, Nx, Qx, rfl, hBx, hLD, hNx, hRx, hxl, -, hPx, hDx⟩ := hq
  obtain ⟨hP, hD⟩ := w_join hP hD (fun q hq => hA q (Nat.le_trans hS.1 hq)) hk hPx hDx
  have hS := hS1
  clear hk hz hS1 hPx hDx
  have hTx : TLn (a_setupLength vx1) (a_setupByte vx1) (suT P B (mL ms) nmS nbS o) := by
    have ht := tn_setup hRx
    rw [su_txt hV (nums := v_nums vx1) (bn := v_bNames vx1) (pn := v_pNames vx1) (bo := v_boatO vx1) hLD.2.2.1 hLD.2.2.2.1 hLD.2.2.2.2.1 hLD.2.2.2.2.2.1] at ht
    exact ht
  refine lv_if_eq (tgt := 367) S.1 S.2.1 dL_undone_319 (by decide) (fun z9 => absurd z9 (by decide)) (fun _ => ?_)
  refine lv_aload S.1 S.2.1 dL_undone_322 (lv_at hl 0 rfl) ?_
  refine lv_iconst (v := 2) S.1 S.2.1 dL_undone_324 (by decide) ?_
  refine x_aft (x_St (As := [.ref (αx 0), .int 2]) (rest := []) S ms_L_text qw1401 (l_text2 l D (va_A x1 H.size) x1 αx hRx (by omega) hBx hxl (n0 := H.size) (fun q hq => .inr hq) hTx.1 hTx.2.1 hTx.ok) (stX_and stX_sz stX_cn) hK (wp_right hP) (wd_own (wd_right hD)) (hE.own hS (wd_right hD) hA) ⟨Nat.le_refl _, hC⟩ rfl rfl hl.1 (Nat.le_of_ble_eq_true rfl) rfl rfl ⟨(Nat.le_of_ble_eq_true rfl), (Nat.le_of_ble_eq_true rfl)⟩ ⟨(Nat.le_of_ble_eq_true rfl), (Nat.le_of_ble_eq_true rfl)⟩ dL_undone_325) hS (wa_sub (wd_right hD) (fun q hq => hA q (Nat.le_trans hS.1 hq))) (fun V H locs hq hz hk hS1 => ?_)
  obtain ⟨a4, x4, f4, x2, rfl, hf4, hxl, hBx, -, hPx, hDx⟩ := hq
  obtain ⟨hP, hD⟩ := w_join hP hD (fun q hq => hA q (Nat.le_trans hS.1 hq)) hk hPx hDx
  have hS := hS1
  clear hk hz hS1 hPx hDx
  rw [← List.append_assoc] at hP hD
  have hT4 := st_own S.2.2.2.2 hK hP hD
  have hP := wp_left hP
  have hD := wd_left hD
  refine lv_aload_n S.1 S.2.1 dL_undone_328 rfl (lv_at hl 4 rfl) ?_
  refine lv_iconst (v := 2) S.1 S.2.1 dL_undone_329 (by decide) ?_
  refine x_ownG (w := u3 ++ x2) (x_St (As := [.ref (α 0), .int 2]) (rest := [.ref a4]) S ms_L_text qw1401 (l_text2 l D (va_A (u3 ++ x2) H.size) (u3 ++ x2) α hR (by omega) (hB.app hu) (by rw [List.length_append]; omega) (n0 := H.size) (fun q hq => .inr hq) hTL.1 hTL.2.1 hTL.ok) (stX_and stX_sz stX_cn) hK hP (wd_own hD) (hE.own hS hD hA) ⟨Nat.le_refl _, hC⟩ rfl rfl hl.1 (Nat.le_of_ble_eq_true rfl) rfl rfl ⟨(Nat.le_of_ble_eq_true rfl), (Nat.le_of_ble_eq_true rfl)⟩ ⟨(Nat.le_of_ble_eq_true rfl), (Nat.le_of_ble_eq_true rfl)⟩ dL_undone_330) hS hD hA (fun V H locs hq hS hown => ?_)
  obtain ⟨a5, x5, f5, w5, rfl, hf5, -, hB5, hsm, hP, hD1⟩ := hq
  obtain ⟨u5, rfl, hsu⟩ := w_same hsm hu
  have hT5 := st_own S.2.2.2.2 hK hP hD1
  have hP := wp_left hP
  obtain ⟨hD, hkp⟩ := hown (u5 ++ x2) (wd_left hD1)
  clear hown hD1 hsm
  have hu : 234 ≤ u5.length := by rw [hsu.1]; exact hu
  have hB := hB5.left hu
  have hQ := hQ.same hsu (Nat.le_refl _)
  clear hsu
  have hT4 := hkp.2 _ _ _ _ hT4
  clear hkp
  have hn9 := hTL.2.1
  have he : ∀ j, j < (suT P B (mL ms) nmS nbS o).length → f4 j = f5 j := fun j hj => ((hf4 j hj).trans (hTx.2.2 j hj).1).trans ((hf5 j hj).trans (hTL.2.2 j hj).1).symm
  refine x_aftR (st1 := [.int 1]) (x_V (As := [.ref a5]) (rest := []) S mi_J0_equals_9ea2d qw1589 (x_J0_equals_9ea2d l D (va_A (u5 ++ x2) H.size) (u5 ++ x2) a4 _ a5 _ (suT P B (mL ms) nmS nbS o).length _ _ (by omega) he) (stX_and stX_tx stX_tx) hK hP (wd_own hD) (hE.own hS hD hA) ⟨hT4, hT5⟩ hT4.recv rfl rfl hl.1 (Nat.le_of_ble_eq_true rfl) rfl rfl ⟨(Nat.le_of_ble_eq_true rfl), (Nat.le_of_ble_eq_true rfl)⟩ ⟨(Nat.le_of_ble_eq_true rfl), (Nat.le_of_ble_eq_true rfl)⟩ dL_undone_333) hS (wa_sub hD (fun q hq => hA q (Nat.le_trans hS.1 hq))) rfl (fun locs hS => ?_)
  refine lv_if_eq (tgt := 367) S.1 S.2.1 dL_undone_336 (by decide) (fun z9 => absurd z9 (by decide)) (fun _ => ?_)
  refine lv_aload S.1 S.2.1 dL_undone_339 (lv_at hl 0 rfl) ?_
  refine lv_bipush (v := 13) S.1 S.2.1 dL_undone_341 (by decide) ?_
  refine x_aftQ (st1 := .int (a_value vx1 13) :: []) (x_V0 (As := [.int 13]) (rest := []) S mi_X11_value qw725 (k_value l D (va_A x2 H.size) x2 αx hRx (by omega) 13 hBx) hK (wp_right hP) (wd_own (wd_right hD)) (hE.own hS (wd_right hD) hA) (hBx.recv hK (wp_right hP)) rfl rfl hl.1 (Nat.le_of_ble_eq_true rfl) rfl rfl ⟨(Nat.le_of_ble_eq_true rfl), (Nat.le_of_ble_eq_true rfl)⟩ ⟨(Nat.le_of_ble_eq_true rfl), (Nat.le_of_ble_eq_true rfl)⟩ dL_undone_343) hS (wa_sub (wd_right hD) (fun q hq => hA q (Nat.le_trans hS.1 hq))) rfl (fun x5 H locs hq hPx hDx hz hk hS1 => ?_)
  obtain ⟨hBx, -⟩ := hq
  obtain ⟨hP, hD⟩ := w_join hP hD (fun q hq => hA q (Nat.le_trans hS.1 hq)) hk hPx hDx
  have hS := hS1
  clear hk hz hS1 hPx hDx
  rw [show a_value vx1 13 = 0 from (av_13 vx1).trans hLD.2.2.2.2.2.2.2.2.1]
  refine lv_if_ne (tgt := 367) S.1 S.2.1 dL_undone_346 (by decide) (fun z9 => absurd (by decide) z9) (fun _ => ?_)
  refine lv_aload S.1 S.2.1 dL_undone_349 (lv_at hl 0 rfl) ?_
  refine lv_iconst (v := 3) S.1 S.2.1 dL_undone_351 (by decide) ?_
  refine x_aftQ (st1 := .int (a_value vx1 3) :: []) (x_V0 (As := [.int 3]) (rest := []) S mi_X11_value qw725 (k_value l D (va_A x5 H.size) x5 αx hRx (by omega) 3 hBx) hK (wp_right hP) (wd_own (wd_right hD)) (hE.own hS (wd_right hD) hA) (hBx.recv hK (wp_right hP)) rfl rfl hl.1 (Nat.le_of_ble_eq_true rfl) rfl rfl ⟨(Nat.le_of_ble_eq_true rfl), (Nat.le_of_ble_eq_true rfl)⟩ ⟨(Nat.le_of_ble_eq_true rfl), (Nat.le_of_ble_eq_true rfl)⟩ dL_undone_352) hS (wa_sub (wd_right hD) (fun q hq => hA q (Nat.le_trans hS.1 hq))) rfl (fun x6 H locs hq hPx hDx hz hk hS1 => ?_)
  obtain ⟨hBx, -⟩ := hq
  obtain ⟨hP, hD⟩ := w_join hP hD (fun q hq => hA q (Nat.le_trans hS.1 hq)) hk hPx hDx
  have hS := hS1
  clear hk hz hS1 hPx hDx
  rw [(val_3 hRx).1]
  refine lv_aload_n S.1 S.2.1 dL_undone_355 rfl (lv_at hl 4 rfl) ?_
  refine lv_iconst (v := 3) S.1 S.2.1 dL_undone_356 (by decide) ?_
  refine x_ownQ (w := u5 ++ x6) (st1 := [.int (a_value v 3), .int (nI B)]) (x_V0 (As := [.int 3]) (rest := [.int (nI B)]) S mi_X11_value qw725 (k_value l D (va_A (u5 ++ x6) H.size) (u5 ++ x6) α hR (by omega) 3 (hB.app hu)) hK hP (wd_own hD) (hE.own hS hD hA) ((hB.app hu).recv hK hP) rfl rfl hl.1 (Nat.le_of_ble_eq_true rfl) rfl rfl ⟨(Nat.le_of_ble_eq_true rfl), (Nat.le_of_ble_eq_true rfl)⟩ ⟨(Nat.le_of_ble_eq_true rfl), (Nat.le_of_ble_eq_true rfl)⟩ dL_undone_357) hS hD hA rfl (fun w7 H locs hq hP hD hS hkp => ?_)
  obtain ⟨hB7, hsm⟩ := hq
  obtain ⟨u7, rfl, hsu⟩ := w_same hsm hu
  have hQ := hQ.same hsu (Nat.le_refl _)
  rw [(val_3 hR).1]
  refine lv_icmp_ne (tgt := 367) S.1 S.2.1 dL_undone_360 (by decide) (fun z9 => absurd (rfl) z9) (fun _ => ?_)
  refine lv_iconst (v := 1) S.1 S.2.1 dL_undone_363 (by decide) ?_
  refine lv_goto (tgt := 368) S.1 S.2.1 dL_undone_364 (by decide) ?_
  refine W.more (cells' := 7600) (slots' := 290000) ?_ (by decide) (by decide)
  exact x_nret S hr hlk hS rfl ⟨u7, _, rfl, hQ, wp_left hP, wd_left hD⟩ dL_undone_368
end UNE
set_option maxHeartbeats 4000000 in
set_option maxRecDepth 100000 in
theorem l_undone (l : Launch) (D : va_G) (A : Nat → Prop) (w : va_W) (α : Nat → Nat) {N0 P B Q qa nH : Nat} {y : Int32} {v : VT} {ms : List Nat} (hR : RA N0 P B Q v) (hN0 : N0 ≤ 550) (hX : EX P v) (hSV : SVI P B ms v) (hB : OB D α w v) (hQ : QW D 234 w qa y) (hA : ∀ q, nH ≤ q → A q) : Met l yL_undone (ws_ yL_undone cL_undone 7 (Option.some Jvm.ClassFile.FieldType.boolean)) ({ frames := 12, cells := 7600, slots := 290000, locals := 380 } : Room) (gPx D A [.ref (α 0), .ref qa] w (fun U H => nH ≤ H.size ∧ (CN U ∧ DGf A U H))) (udQ D A qa) 7600 290000 A := by
  refine g_metX [(0, .ref (α 0)), (1, .ref qa)] (by decide +kernel) (Nat.le_of_ble_eq_true rfl) rfl (fun pg en s mi ar below me co ls S hK hP hD hE hS hx hr hlk hnm hl => ?_)
  have hA : ∀ q, s.heap.size ≤ q → A q := fun q hq => hA q (Nat.le_trans hx.1 hq)
  have hC := hx.2.1
  have hG := hx.2.2
  obtain ⟨n0, n1, n2, hTX⟩ := TXT_of hR (by omega)
  obtain ⟨u, hue⟩ : ∃ u, u = w := ⟨_, rfl⟩
  rw [← hue] at hP hD hB hQ
  clear hue
  refine lv_aload_n S.1 S.2.1 dL_undone_0 rfl (lv_at hl 0 rfl) ?_
  refine x_ownG (x_St (As := [.ref (α 0)]) (rest := []) S ms_L_told qw1398 (l_told l D (va_A u s.heap.size) u α hR (by omega) hB (by have h9 := hQ.len; omega) (nH := s.heap.size) (fun q hq => .inr hq) hTX (val_2 hR).1 (val_2 hR).2.2 (val_3 hR).1 (val_3 hR).2) (stX_and stX_sz (stX_and stX_cn stX_dg)) hK hP (wd_own hD) (hE.own hS hD hA) ⟨Nat.le_refl _, hC, hG.own hS hD hA⟩ rfl rfl hl.1 (Nat.le_of_ble_eq_true rfl) rfl rfl ⟨(Nat.le_of_ble_eq_true rfl), (Nat.le_of_ble_eq_true rfl)⟩ ⟨(Nat.le_of_ble_eq_true rfl), (Nat.le_of_ble_eq_true rfl)⟩ dL_undone_1) hS hD hA (fun V H locs hq hS hown => ?_)
  obtain ⟨aw, xw, kw, fw, u1, rfl, hLw, hnw, hu1, hB, hsm, hP, hD1⟩ := hq
  have hTw := st_own S.2.2.2.2 hK hP hD1
  have hP := wp_left hP
  obtain ⟨hD, hkp⟩ := hown u1 (wd_left hD1)
  clear hown hD1 hu1
  clear hkp
  have hQ := hQ.same hsm (Nat.le_refl _)
  clear hsm
  obtain ⟨u, hue⟩ : ∃ u, u = u1 := ⟨_, rfl⟩
  rw [← hue] at hP hD hB hQ  hTw
  clear hue
  refine lv_astore_n (lv' := [(2, .ref aw), (0, .ref (α 0)), (1, .ref qa)]) S.1 S.2.1 dL_undone_4 rfl hl (by decide) rfl (fun ls hl => ?_)
  refine lv_iconst (v := 0) S.1 S.2.1 dL_undone_5 (by decide) ?_
  refine lv_istore_n (lv' := [(3, .int 0), (2, .ref aw), (0, .ref (α 0)), (1, .ref qa)]) S.1 S.2.1 dL_undone_6 rfl hl (by decide) rfl (fun ls hl => ?_)
  refine lv_aload_n S.1 S.2.1 dL_undone_7 rfl (lv_at hl 2 rfl) ?_
  refine lv_iconst (v := 0) S.1 S.2.1 dL_undone_8 (by decide) ?_
  refine x_ownQ (st1 := [.int (a_keep v (0 : Int32))]) (x_V0 (As := [.int 0]) (rest := []) S mi_X11_keep qw1600 (k_keep l D (va_A u H.size) u α hR (by omega) (0 : Int32) hB) hK hP (wd_own hD) (hE.own hS hD hA) (hB.recv hK hP) rfl rfl hl.1 (Nat.le_of_ble_eq_true rfl) rfl rfl ⟨(Nat.le_of_ble_eq_true rfl), (Nat.le_of_ble_eq_true rfl)⟩ ⟨(Nat.le_of_ble_eq_true rfl), (Nat.le_of_ble_eq_true rfl)⟩ dL_undone_9) hS hD hA rfl (fun u H locs hq hP hD hS hkp => ?_)
  obtain ⟨hB, hsm⟩ := hq
  have hTw := hkp.2 _ _ _ _ hTw
  clear hkp
  have hQ := hQ.same hsm (Nat.le_refl _)
  clear hsm
  obtain ⟨k1, k2, k3, k4, k5, k6⟩ := ef_keep v
  have hR1 := q_keep hR (by omega) 0
  have hX1 : EX P (n_keep v 0) := by
    unfold n_keep
    exact hX
  rw [k1]
  generalize n_keep v 0 = v1 at hB hR1 hX1 k2 k3 k4 k5 k6
  refine lv_istore (lv' := [(4, .int (v_day v)), (3, .int 0), (2, .ref aw), (0, .ref (α 0)), (1, .ref qa)]) S.1 S.2.1 dL_undone_12 hl (by decide) rfl (fun ls hl => ?_)
  refine lv_iconst (v := 0) S.1 S.2.1 dL_undone_14 (by decide) ?_
  refine lv_istore (lv' := [(5, .int 0), (4, .int (v_day v)), (3, .int 0), (2, .ref aw), (0, .ref (α 0)), (1, .ref qa)]) S.1 S.2.1 dL_undone_15 hl (by decide) rfl (fun ls hl => ?_)
  refine W.more (cells' := 2100) (slots' := 83200) ?_ (by decide) (by decide)
  exact ud_a S hK hE hA hG hC (v0 := v) hLw hnw hTX hN0 (fun {u} {v} {y} {N} {H} {locs} {ls} hP hD hS hB hQ hR hW h21 e1 hN hl => ud_d S hK hE hA hG hC hLw hnw hTX hN0 hr hlk (hSV.same h21) hP hD hS hB hQ hR hW h21 e1 hN hl) 7 (k := 0) (L := []) hP hD hS hB hQ hR1 hTw k3 hX1 k5 k6 ((HL.nil hR1)) (by show (v1.1 :: []).getLast? = some v.1; rw [k2]; rfl) (Nat.le_refl _) (by omega) (lv_sub hl [0, 1, 2, 3, 5, 4] rfl) rfl
