/-! THE LAW: setup -/
theorem nz_nI {a : Nat} (h0 : 0 < a) (h : a < 2147483648) : ¬ nI a = 0 := fun z => by
  have := (nI_eq (a := a) (b := 0) h (by decide)).mp z
  omega
def mL (ms : List Nat) (i : Nat) : Nat := ms.getD i 0
def nmS (p : Nat) : Nat := 1 + p
def nbS (b : Nat) : Nat := 24 + b
def nuF (ms : List Nat) (i : Nat) : Int32 := nI (mL ms i)
def bnF (b : Nat) : Int32 := nI (nbS b * 2 ^ 25)
def pnF (p : Nat) : Int32 := nI (nmS p * 2 ^ 25)
theorem obS_cg {o o' : Nat → Nat} {i k : Nat} (h : o' i = o k) : obS o' i = obS o k := by
  unfold obS
  rw [h]
theorem obS_0 {o : Nat → Nat} {i : Nat} (h : o i = 0) : obS o i = -2 := if_pos h
theorem obS_s {o : Nat → Nat} {i b : Nat} (h : o i = b + 1) : obS o i = nI b := by
  unfold obS
  rw [h]
  exact if_neg (Nat.succ_ne_zero b)
theorem o_le {o : Nat → Nat} {j B x : Nat} (ho : ∀ i, i < j → o i ≤ B) (hx : x ≤ B) : ∀ i, i < j + 1 → (fun i => if i = j then x else o i) i ≤ B := fun i hi => by
  show (if i = j then x else o i) ≤ B
  by_cases q : i = j
  · rw [if_pos q]
    exact hx
  · rw [if_neg q]
    exact ho i (by omega)
theorem pe_new {j x : Nat} {o : Nat → Nat} : flat (peL pnF bnF (obS (fun i => if i = j then x else o i))) j = flat (peL pnF bnF (obS o)) j := flat_cg (fun i hi => by
  unfold peL
  rw [obS_cg (o := o) (o' := fun i => if i = j then x else o i) (i := i) (k := i) (if_neg (show ¬ i = j by omega))])
theorem pe_own {j x : Nat} {o : Nat → Nat} : (fun i => if i = j then x else o i) j = x := if_pos rfl
def seQ (D : va_G) (A : Nat → Prop) (w0 : va_W) (k qa : Nat) : Array Value → State → Outcome → State → Prop := gG A (fun V _ H1 => ∃ (a v1 n : Nat) (f1 : Nat → Int32) (w1 : va_W) (y1 : Int32) (P B : Nat) (ms : List Nat) (o : Nat → Nat), V = some (.ref a) ∧ VIL P B (mL ms) nmS nbS o ∧ BC f1 n ((suT P B (mL ms) nmS nbS o).map nI) ∧ QW D k w1 qa y1 ∧ Same w0 w1 k 1 ∧ va_P D vwCl (w1 ++ stW D a v1 n f1) H1 ∧ va_D A (w1 ++ stW D a v1 n f1))
def NT (ms : List Nat) (B : Nat) : List Nat := NLx (nuF ms) ++ flat (boL bnF) B
section SETUP
variable {pg : Program} {l : Launch} {en : Env} {s : State} {mi : MethodId} {ar : Array Value} {below : List Frame} {me : Method} {co : Code} {H : Heap} {locs : List Loc} {ls : Array Slot} {D : va_G} {A : Nat → Prop} {w0 u : va_W} {k qa : Nat} {y : Int32} {b v1 m n : Nat} {f : Nat → Int32} {X : List Nat} {ms : List Nat} {B : Nat}
set_option maxHeartbeats 4000000 in
set_option maxRecDepth 100000 in
theorem se_end (S : CallFix pg mi co cL_setup 4 s ar lw_all RL) (hK : va_K D vwCl (gTys D) s) (hE : EV D A s s.heap) (hA : ∀ q, s.heap.size ≤ q → A q) (hG : DGf A s s.heap) (hC : CN s) (hr : me.sig.returnType = some (.object "java/lang/String")) (hlk : me.locks = false) {j : Nat} (hP : va_P D vwCl (u ++ sbW D b v1 m f n) H) (hD : va_D A (u ++ sbW D b v1 m f n)) (hS : va_S A s.heap H locs) (hQ : QW D k u qa y) (hku : k < u.length) (hsk : Same w0 u k 1) (hf : fbt f) (hn : n ≤ m) (h16 : 16 ≤ m) (hm : m ≤ 1000) (hL : BC f n (X.map nI)) {o : Nat → Nat} (ho : ∀ i, i < j → o i ≤ B) (hX : X = NT ms B ++ flat (peL pnF bnF (obS o)) j) (hms : NB (mL ms)) (hj2 : 2 ≤ j) (hj9 : j ≤ 9) (hB : B ≤ 3) (hb : n ≤ 150 + 14 * j) (hl : lv_has ls 4 [(1, .ref b), (0, .ref qa)]) : W pg l en ({ frames := 10, cells := 160, slots := 4000, locals := 340 } : Room) s mi ar below me co H locs ((2 + 6 * j) + m / 16) ((30 + 120 * j) + 2 * m) (MQ below (seQ D A w0 k qa) ar s 160 4000 A) (F0 mi 298 ls []) := by
  refine lv_aload_n S.1 S.2.1 dL_setup_298 rfl (lv_at hl 0 rfl) ?_
  refine sb_ts S qw1031 hK hP hD hE hS hA hC hf hn (by omega) hl.1 (Nat.le_of_ble_eq_true rfl) ⟨(Nat.le_of_ble_eq_true rfl), (Nat.le_of_ble_eq_true rfl)⟩ ⟨(by show (2 + 6 * j) + m / 16 + 2 ≤ 160; omega), (by show (30 + 120 * j) + 2 * m + (4 + n) ≤ 4000; omega)⟩ dL_setup_299 (fun H locs a v2 f1 hf1 hP hD hS hz hk => ?_)
  refine W.more (cells' := 160) (slots' := 4000) ?_ (by omega) (by omega)
  have hV : VIL j B (mL ms) nmS nbS o := by
    refine ⟨hms, ⟨hj2, by omega⟩, by omega, fun i hi => ?_, fun a b _ _ e => ?_, fun i hi => ?_, fun a b _ _ e => ?_, ho⟩
    · show 1 ≤ 1 + i ∧ 1 + i ≤ 26
      omega
    · have e2 : 1 + a = 1 + b := e
      omega
    · show 1 ≤ 24 + i ∧ 24 + i ≤ 26
      omega
    · have e2 : 24 + a = 24 + b := e
      omega
  have e := su_txt hV (nums := nuF ms) (bn := bnF) (pn := pnF) (bo := obS o) (fun _ _ => rfl) (fun _ _ => rfl) (fun _ _ => rfl) (fun _ _ => rfl)
  have e2 : X = suT j B (mL ms) nmS nbS o := by
    rw [hX, ← e]
    unfold suL NT
    exact List.append_assoc ..
  rw [e2] at hL
  exact x_aret S hr hlk hS ⟨a, v2, n, f1, u, _, j, B, ms, o, rfl, hV, ⟨hL.1, fun j hj => (hf1 j hj).trans (hL.2 j hj)⟩, hQ, hsk, hP, hD⟩ dL_setup_302
set_option maxHeartbeats 4000000 in
set_option maxRecDepth 100000 in
theorem se_pe (S : CallFix pg mi co cL_setup 4 s ar lw_all RL) (hK : va_K D vwCl (gTys D) s) (hE : EV D A s s.heap) (hA : ∀ q, s.heap.size ≤ q → A q) (hG : DGf A s s.heap) (hC : CN s) (hr : me.sig.returnType = some (.object "java/lang/String")) (hlk : me.locks = false) {j : Nat} (hj9 : j < 9) (hB : B ≤ 3) (hP : va_P D vwCl (u ++ sbW D b v1 m f n) H) (hD : va_D A (u ++ sbW D b v1 m f n)) (hS : va_S A s.heap H locs) (hQ : QW D k u qa y) (hku : k < u.length) (hsk : Same w0 u k 1) (hf : fbt f) (hn : n ≤ m) (h16 : 16 ≤ m) (hm : m ≤ 1000) (hL : BC f n (X.map nI)) {o : Nat → Nat} (ho : ∀ i, i < j → o i ≤ B) (hX : X = NT ms B ++ flat (peL pnF bnF (obS o)) j) (kk : ∀ {u : va_W} {y : Int32} {v1 m n : Nat} {f : Nat → Int32} {X : List Nat} {H : Heap} {locs : List Loc} {ls : Array Slot} {o : Nat → Nat}, va_P D vwCl (u ++ sbW D b v1 m f n) H → va_D A (u ++ sbW D b v1 m f n) → va_S A s.heap H locs → QW D k u qa y → k < u.length → Same w0 u k 1 → fbt f → n ≤ m → 16 ≤ m → m ≤ 1000 → BC f n (X.map nI) → (∀ i, i < j + 1 → o i ≤ B) → X = NT ms B ++ flat (peL pnF bnF (obS o)) (j + 1) → n ≤ 150 + 14 * (j + 1) → lv_has ls 4 [(3, .int (nI (j + 1))), (2, .int (nI B)), (1, .ref b), (0, .ref qa)] → W pg l en ({ frames := 10, cells := 160, slots := 4000, locals := 340 } : Room) s mi ar below me co H locs ((2 + 6 * (j + 1)) + m / 16) ((30 + 120 * (j + 1)) + 2 * m) (MQ below (seQ D A w0 k qa) ar s 160 4000 A) (F0 mi 202 ls [])) (hb : n ≤ 150 + 14 * j) (hl : lv_has ls 4 [(3, .int (nI j)), (2, .int (nI B)), (1, .ref b), (0, .ref qa)]) : W pg l en ({ frames := 10, cells := 160, slots := 4000, locals := 340 } : Room) s mi ar below me co H locs ((2 + 6 * j) + m / 16) ((30 + 120 * j) + 2 * m) (MQ below (seQ D A w0 k qa) ar s 160 4000 A) (F0 mi 223 ls []) := by
  refine lv_aload_n S.1 S.2.1 dL_setup_223 rfl (lv_at hl 2 rfl) ?_
  refine va_ldcS (own := RL) (q := D.2 200 28) S.1 S.2.1 S.2.2.2.1 (ldS_40 hE) dL_setup_224 ?_
  refine bw_lit (i := 28) (M := 1000) (cb := (2 + 6 * j)) (sb := (30 + 120 * j)) S qw1002 hK hP hD hE hS hA hf hn h16 hm (Nat.le_of_ble_eq_true rfl) hL (by decide) rfl lit_asc28 (by decide) (by show 2 * (n + 7) ≤ 1000; omega) hl.1 (Nat.le_of_ble_eq_true rfl) ⟨(Nat.le_of_ble_eq_true rfl), (Nat.le_of_ble_eq_true rfl)⟩ ⟨(by show (2 + 6 * j) + 1000 / 16 ≤ 160; omega), (by show (30 + 120 * j) + 2 * 1000 ≤ 4000; omega)⟩ dL_setup_226 (fun H locs v1 f k1 m e1 hL hf hn h16 hm hP hD hS => ?_)
  have hb : k1 ≤ 150 + 14 * j + 7 := by have e2 : k1 = n + 7 := e1; omega
  clear e1
  have hL : BC f k1 ((X ++ [112, 101, 114, 115, 111, 110, 32]).map nI) := by
    rw [List.map_append, ← lsN28]
    exact hL
  refine lv_bipush (v := 97) S.1 S.2.1 dL_setup_229 (by decide) ?_
  refine lv_iload_n S.1 S.2.1 dL_setup_231 rfl (lv_at hl 0 rfl) ?_
  refine lv_iadd S.1 S.2.1 dL_setup_232 ?_
  rw [show (97 : Int32) + nI (j) = nI (97 + j) from nI_add 97 (j)]
  refine lv_i2c (v := (nI (97 + j))) S.1 S.2.1 dL_setup_233 (asc_ok (asc_ofN _ (by omega))).2.2.1 ?_
  refine bw_ch (c := nI (97 + j)) (M := 1000) (cb := (2 + 6 * j)) (sb := (30 + 120 * j)) S qw1003 hK hP hD hE hS hA hf hn h16 hm (Nat.le_of_ble_eq_true rfl) hL (asc_ofN _ (by omega)) (by show 2 * (k1 + 1) ≤ 1000; omega) hl.1 (Nat.le_of_ble_eq_true rfl) ⟨(Nat.le_of_ble_eq_true rfl), (Nat.le_of_ble_eq_true rfl)⟩ ⟨(by show (2 + 6 * j) + 1000 / 16 ≤ 160; omega), (by show (30 + 120 * j) + 2 * 1000 ≤ 4000; omega)⟩ dL_setup_234 (fun H locs v1 f k2 m e1 hL hf hn h16 hm hP hD hS => ?_)
  have hb : k2 ≤ 150 + 14 * j + 7 + 1 := by have e2 : k2 = k1 + 1 := e1; omega
  clear e1
  have hL : BC f k2 (((X ++ [112, 101, 114, 115, 111, 110, 32]) ++ [97 + j]).map nI) := by
    rw [List.map_append]
    exact hL
  refine lv_iload_n S.1 S.2.1 dL_setup_237 rfl (lv_at hl 1 rfl) ?_
  refine lv_if_eq (tgt := 250) S.1 S.2.1 dL_setup_238 (by decide) (fun c0 => ?_) (fun c0 => ?_)
  · refine va_ldcS (own := RL) (q := D.2 200 37) S.1 S.2.1 S.2.2.2.1 (ldS_38 hE) dL_setup_250 ?_
    refine lv_goto (tgt := 288) S.1 S.2.1 dL_setup_252 (by decide) ?_
    refine bw_lit (i := 37) (M := 1000) (cb := (2 + 6 * j)) (sb := (30 + 120 * j)) S qw1002 hK hP hD hE hS hA hf hn h16 hm (Nat.le_of_ble_eq_true rfl) hL (by decide) rfl lit_asc37 (by decide) (by show 2 * (k2 + 1) ≤ 1000; omega) hl.1 (Nat.le_of_ble_eq_true rfl) ⟨(Nat.le_of_ble_eq_true rfl), (Nat.le_of_ble_eq_true rfl)⟩ ⟨(by show (2 + 6 * j) + 1000 / 16 ≤ 160; omega), (by show (30 + 120 * j) + 2 * 1000 ≤ 4000; omega)⟩ dL_setup_288 (fun H locs v1 f k3 m e1 hL hf hn h16 hm hP hD hS => ?_)
    have hb : k3 ≤ 150 + 14 * j + 7 + 1 + 1 := by have e2 : k3 = k2 + 1 := e1; omega
    clear e1
    have hL : BC f k3 ((((X ++ [112, 101, 114, 115, 111, 110, 32]) ++ [97 + j]) ++ [59]).map nI) := by
      rw [List.map_append, ← lsN37]
      exact hL
    have eX : (((X ++ [112, 101, 114, 115, 111, 110, 32]) ++ [97 + j]) ++ [59]) = NT ms B ++ flat (peL pnF bnF (obS (fun i => if i = j then 0 else o i))) (j + 1) := by
      show _ = NT ms B ++ (flat (peL pnF bnF (obS (fun i => if i = j then 0 else o i))) j ++ peL pnF bnF (obS (fun i => if i = j then 0 else o i)) j)
      rw [pe_new, hX]
      have e2 : peL pnF bnF (obS (fun i => if i = j then 0 else o i)) j = [112, 101, 114, 115, 111, 110, 32] ++ ([97 + j] ++ [59]) := by
        have en : nmL (pnF j).toNatClampNeg = [97 + j] := by
          have h := nm_clamp (x := nmS j) (show 1 ≤ 1 + j ∧ 1 + j ≤ 26 by omega)
          have h2 : 96 + nmS j = 97 + j := by show 96 + (1 + j) = 97 + j; omega
          rw [h2] at h
          exact h
        unfold peL
        rw [en, obS_0 (o := fun i => if i = j then 0 else o i) (i := j) pe_own]
        unfold ofL
        rw [if_pos rfl, List.nil_append]
      rw [e2]
      simp only [List.append_assoc, List.nil_append]
    refine lv_pop S.1 S.2.1 dL_setup_291 rfl ?_
    refine lv_iinc (v := (nI (j + 1))) (lv' := [(3, .int (nI (j + 1))), (2, .int (nI B)), (1, .ref b), (0, .ref qa)]) S.1 S.2.1 dL_setup_292 hl (k := 0) rfl ((nI_succ j).symm) (by decide) rfl (fun ls hl => ?_)
    refine lv_goto (tgt := 202) S.1 S.2.1 dL_setup_295 (by decide) ?_
    refine W.more (cells' := (2 + 6 * (j + 1)) + m / 16) (slots' := (30 + 120 * (j + 1)) + 2 * m) ?_ (by omega) (by omega)
    exact kk hP hD hS hQ hku hsk hf hn h16 hm hL (o := (fun i => if i = j then 0 else o i)) (o_le ho (Nat.zero_le _)) eX (by omega) (lv_sub hl [0, 1, 2, 3] rfl)
  · have hB0 : 0 < B := Nat.pos_of_ne_zero (fun z => c0 (by rw [z]; rfl))
    refine lv_aload_n S.1 S.2.1 dL_setup_241 rfl (lv_at hl 3 rfl) ?_
    refine x_aftQ (st1 := [.int (drw (dnx y)), .ref b]) (x_St0 (As := [.ref qa]) (rest := [.ref b]) S ms_L_draw qw972 (l_drawS l D A (u ++ sbW D b v1 m f k2) (hQ.app hku)) hK hP hD (hE.kept hS.2.1) rfl rfl hl.1 (Nat.le_of_ble_eq_true rfl) rfl rfl ⟨(Nat.le_of_ble_eq_true rfl), (Nat.le_of_ble_eq_true rfl)⟩ ⟨(by show (2 + 6 * j) + m / 16 + 0 ≤ 160; omega), (by show (30 + 120 * j) + 2 * m + 0 ≤ 4000; omega)⟩ dL_setup_242) hS (fun _ h => h) rfl (fun w3 H locs hq hP hD hz hk hS => ?_)
    obtain ⟨hQ1, hsm⟩ := hq
    clear hz hk
    obtain ⟨u, rfl, hsu⟩ := w_sameK hsm hku
    clear hsm
    have hku : k < u.length := by rw [hsu.1]; exact hku
    have hQ := hQ1.left hku
    have hsk := hsk.trans hsu
    clear hQ1 hsu
    obtain ⟨d3, hd3, ed3⟩ := drw_at (dnx y)
    rw [ed3]
    clear ed3
    generalize dnx y = y at hQ
    refine lv_iconst (v := 3) S.1 S.2.1 dL_setup_245 (by decide) ?_
    refine lv_irem S.1 S.2.1 dL_setup_246 (by decide) ?_
    rw [show nI d3 - nI d3 / 3 * 3 = nI (d3 % 3) from pk_rem (d := 3) (by omega) (by decide) (by decide)]
    refine lv_if_ne (tgt := 255) S.1 S.2.1 dL_setup_247 (by decide) (fun c1 => ?_) (fun c1 => ?_)
    · refine sb_new S qw840 qw1024 hK hP hD hE hS hA hl.1 (Nat.le_of_ble_eq_true rfl) ⟨(Nat.le_of_ble_eq_true rfl), (Nat.le_of_ble_eq_true rfl)⟩ ⟨(by show (2 + 6 * j) + m / 16 + 1 + 1 ≤ 160; omega), (by show (30 + 120 * j) + 2 * m + 4 + 16 ≤ 4000; omega)⟩ dL_setup_255 dL_setup_258 dL_setup_259 (fun H locs b2 v2 hP hD hS hz hk => ?_)
      clear hz hk
      refine W.more (cells' := ((2 + 6 * j) + m / 16 + 1 + 1) + 16 / 16) (slots' := ((30 + 120 * j) + 2 * m + 4 + 16) + 2 * 16) ?_ (by omega) (by omega)
      have hfO := hf
      have hnO := hn
      have h16O := h16
      have hmO := hm
      have hLO := hL
      have hbO := hb
      obtain ⟨fO, hfe⟩ : ∃ g, g = f := ⟨_, rfl⟩
      rw [← hfe] at hP hD hfO hLO
      clear hfe
      obtain ⟨mO, hme⟩ : ∃ g, g = m := ⟨_, rfl⟩
      rw [← hme] at hP hD hnO h16O hmO ⊢
      clear hme
      obtain ⟨vO, hve⟩ : ∃ g, g = v1 := ⟨_, rfl⟩
      rw [← hve] at hP hD
      clear hve
      have hf : fbt z0 := fun _ => rfl
      have hn : 0 ≤ 16 := Nat.zero_le _
      have h16 : 16 ≤ 16 := Nat.le_refl _
      have hm : 16 ≤ 40 := by decide
      have hL : BC z0 0 (([] : List Nat).map nI) := ⟨rfl, fun j hj => absurd hj (Nat.not_lt_zero _)⟩
      have hb : 0 ≤ 0 := Nat.le_refl _
      refine va_ldcS (own := RL) (q := D.2 200 29) S.1 S.2.1 S.2.2.2.1 (ldS_41 hE) dL_setup_262 ?_
      refine bw_lit (i := 29) (M := 40) (cb := ((2 + 6 * j) + mO / 16 + 1 + 1)) (sb := ((30 + 120 * j) + 2 * mO + 4 + 16)) S qw1002 hK hP hD hE hS hA hf hn h16 hm (Nat.le_of_ble_eq_true rfl) hL (by decide) rfl lit_asc29 (by decide) (by show 2 * (0 + 4) ≤ 40; omega) hl.1 (Nat.le_of_ble_eq_true rfl) ⟨(Nat.le_of_ble_eq_true rfl), (Nat.le_of_ble_eq_true rfl)⟩ ⟨(by show ((2 + 6 * j) + mO / 16 + 1 + 1) + 40 / 16 ≤ 160; omega), (by show ((30 + 120 * j) + 2 * mO + 4 + 16) + 2 * 40 ≤ 4000; omega)⟩ dL_setup_264 (fun H locs v2 f k4 m e1 hL hf hn h16 hm hP hD hS => ?_)
      have hb : k4 ≤ 0 + 4 := by have e2 : k4 = 0 + 4 := e1; omega
      clear e1
      have hL : BC f k4 ((([] : List Nat) ++ [32, 111, 102, 32]).map nI) := by
        rw [List.map_append, ← lsN29]
        exact hL
      refine lv_bipush (v := 120) S.1 S.2.1 dL_setup_267 (by decide) ?_
      refine lv_aload_n S.1 S.2.1 dL_setup_269 rfl (lv_at hl 3 rfl) ?_
      refine x_aftQ (st1 := [.int (drw (dnx y)), .int 120, .ref b2, .ref b]) (x_St0 (As := [.ref qa]) (rest := [.int 120, .ref b2, .ref b]) S ms_L_draw qw972 (l_drawS l D A ((u ++ sbW D b vO mO fO k2) ++ sbW D b2 v2 m f k4) ((hQ.app hku).app (by rw [List.length_append]; omega))) hK hP hD (hE.kept hS.2.1) rfl rfl hl.1 (Nat.le_of_ble_eq_true rfl) rfl rfl ⟨(Nat.le_of_ble_eq_true rfl), (Nat.le_of_ble_eq_true rfl)⟩ ⟨(by show ((2 + 6 * j) + mO / 16 + 1 + 1) + m / 16 + 0 ≤ 160; omega), (by show ((30 + 120 * j) + 2 * mO + 4 + 16) + 2 * m + 0 ≤ 4000; omega)⟩ dL_setup_270) hS (fun _ h => h) rfl (fun w5 H locs hq hP hD hz hk hS => ?_)
      obtain ⟨hQ1, hsm⟩ := hq
      clear hz hk
      obtain ⟨uu, rfl, hsn⟩ := w_sameK hsm (by rw [List.length_append]; omega)
      have hQ1 := hQ1.left (by rw [hsn.1, List.length_append]; omega)
      clear hsm
      obtain ⟨u, rfl, hsu⟩ := w_sameK hsn hku
      clear hsn
      have hku : k < u.length := by rw [hsu.1]; exact hku
      have hQ := hQ1.left hku
      have hsk := hsk.trans hsu
      clear hQ1 hsu
      obtain ⟨d5, hd5, ed5⟩ := drw_at (dnx y)
      rw [ed5]
      clear ed5
      generalize dnx y = y at hQ
      refine lv_iload_n S.1 S.2.1 dL_setup_273 rfl (lv_at hl 1 rfl) ?_
      refine lv_irem S.1 S.2.1 dL_setup_274 (nz_nI (by omega) (by omega)) ?_
      rw [show nI d5 - nI d5 / nI B * nI B = nI (d5 % B) from pk_rem (d := B) (by omega) (by omega) (by omega)]
      have hdn : d5 % B < B := Nat.mod_lt _ (by omega)
      refine lv_iadd S.1 S.2.1 dL_setup_275 ?_
      rw [show (120 : Int32) + nI (d5 % B) = nI (120 + d5 % B) from nI_add 120 (d5 % B)]
      refine lv_i2c (v := (nI (120 + d5 % B))) S.1 S.2.1 dL_setup_276 (asc_ok (asc_ofN _ (by omega))).2.2.1 ?_
      refine bw_ch (c := nI (120 + d5 % B)) (M := 40) (cb := ((2 + 6 * j) + mO / 16 + 1 + 1)) (sb := ((30 + 120 * j) + 2 * mO + 4 + 16)) S qw1003 hK hP hD hE hS hA hf hn h16 hm (Nat.le_of_ble_eq_true rfl) hL (asc_ofN _ (by omega)) (by show 2 * (k4 + 1) ≤ 40; omega) hl.1 (Nat.le_of_ble_eq_true rfl) ⟨(Nat.le_of_ble_eq_true rfl), (Nat.le_of_ble_eq_true rfl)⟩ ⟨(by show ((2 + 6 * j) + mO / 16 + 1 + 1) + 40 / 16 ≤ 160; omega), (by show ((30 + 120 * j) + 2 * mO + 4 + 16) + 2 * 40 ≤ 4000; omega)⟩ dL_setup_277 (fun H locs v2 f k6 m e1 hL hf hn h16 hm hP hD hS => ?_)
      have hb : k6 ≤ 4 + 1 := by have e2 : k6 = k4 + 1 := e1; omega
      clear e1
      have hL : BC f k6 (((([] : List Nat) ++ [32, 111, 102, 32]) ++ [120 + d5 % B]).map nI) := by
        rw [List.map_append]
        exact hL
      refine va_ldcS (own := RL) (q := D.2 200 37) S.1 S.2.1 S.2.2.2.1 (ldS_38 hE) dL_setup_280 ?_
      refine bw_lit (i := 37) (M := 40) (cb := ((2 + 6 * j) + mO / 16 + 1 + 1)) (sb := ((30 + 120 * j) + 2 * mO + 4 + 16)) S qw1002 hK hP hD hE hS hA hf hn h16 hm (Nat.le_of_ble_eq_true rfl) hL (by decide) rfl lit_asc37 (by decide) (by show 2 * (k6 + 1) ≤ 40; omega) hl.1 (Nat.le_of_ble_eq_true rfl) ⟨(Nat.le_of_ble_eq_true rfl), (Nat.le_of_ble_eq_true rfl)⟩ ⟨(by show ((2 + 6 * j) + mO / 16 + 1 + 1) + 40 / 16 ≤ 160; omega), (by show ((30 + 120 * j) + 2 * mO + 4 + 16) + 2 * 40 ≤ 4000; omega)⟩ dL_setup_282 (fun H locs v2 f k7 m e1 hL hf hn h16 hm hP hD hS => ?_)
      have hb : k7 ≤ 5 + 1 := by have e2 : k7 = k6 + 1 := e1; omega
      clear e1
      have hL : BC f k7 ((((([] : List Nat) ++ [32, 111, 102, 32]) ++ [120 + d5 % B]) ++ [59]).map nI) := by
        rw [List.map_append, ← lsN37]
        exact hL
      refine sb_ts S qw1031 hK hP hD hE hS hA hC hf hn (by omega) hl.1 (Nat.le_of_ble_eq_true rfl) ⟨(Nat.le_of_ble_eq_true rfl), (Nat.le_of_ble_eq_true rfl)⟩ ⟨(by show ((2 + 6 * j) + mO / 16 + 1 + 1) + m / 16 + 2 ≤ 160; omega), (by show ((30 + 120 * j) + 2 * mO + 4 + 16) + 2 * m + (4 + k7) ≤ 4000; omega)⟩ dL_setup_285 (fun H locs a3 v3 f3 hf3 hP hD hS hz hk => ?_)
      clear hz hk
      have hT3 := st_tx S.2.2.2.2 hK hP hD
      have hP := wp_left hP
      have hD := wd_left hD
      have hL3 : BC f3 k7 ((((([] : List Nat) ++ [32, 111, 102, 32]) ++ [120 + d5 % B]) ++ [59]).map nI) := ⟨hL.1, fun j hj => (hf3 j hj).trans (hL.2 j hj)⟩
      have g3 : ∀ j, j < k7 → fits .byte (.int (f3 j)) = true := fun j hj => by rw [hf3 j hj]; exact hf j
      have hn3 : k7 ≤ 6 := hb
      refine W.more (cells' := (2 + 6 * (j + 1)) + mO / 16) (slots' := (30 + 120 * (j + 1)) + 2 * mO) ?_ (by omega) (by omega)
      have hf := hfO
      have hn := hnO
      have h16 := h16O
      have hm := hmO
      have hL := hLO
      have hb := hbO
      refine bw_st (M := 1000) (cb := (2 + 6 * (j + 1))) (sb := (30 + 120 * (j + 1))) S qw1002 hK hP hD hE hS hA hf hn h16 hm (Nat.le_of_ble_eq_true rfl) hL g3 (by omega) hL3 hT3 (by rw [hL3.1]; omega) hl.1 (Nat.le_of_ble_eq_true rfl) ⟨(Nat.le_of_ble_eq_true rfl), (Nat.le_of_ble_eq_true rfl)⟩ ⟨(by show 2 + 6 * (j + 1) + 1000 / 16 ≤ 160; omega), (by show 30 + 120 * (j + 1) + 2 * 1000 ≤ 4000; omega)⟩ dL_setup_288 (fun H locs v1 f k8 m e1 hL hf hn h16 hm hP hD hS => ?_)
      rw [hL3.1] at e1
      have hb : k8 ≤ 150 + 14 * j + 7 + 1 + 6 := by omega
      clear e1
      have hL : BC f k8 ((((X ++ [112, 101, 114, 115, 111, 110, 32]) ++ [97 + j]) ++ (((([] : List Nat) ++ [32, 111, 102, 32]) ++ [120 + d5 % B]) ++ [59])).map nI) := by
        rw [List.map_append]
        exact hL
      have eX : (((X ++ [112, 101, 114, 115, 111, 110, 32]) ++ [97 + j]) ++ (((([] : List Nat) ++ [32, 111, 102, 32]) ++ [120 + d5 % B]) ++ [59])) = NT ms B ++ flat (peL pnF bnF (obS (fun i => if i = j then (d5 % B + 1) else o i))) (j + 1) := by
        show _ = NT ms B ++ (flat (peL pnF bnF (obS (fun i => if i = j then (d5 % B + 1) else o i))) j ++ peL pnF bnF (obS (fun i => if i = j then (d5 % B + 1) else o i)) j)
        rw [pe_new, hX]
        have e2 : peL pnF bnF (obS (fun i => if i = j then (d5 % B + 1) else o i)) j = [112, 101, 114, 115, 111, 110, 32] ++ ([97 + j] ++ ([32, 111, 102, 32] ++ ([120 + d5 % B] ++ [59]))) := by
          have en : nmL (pnF j).toNatClampNeg = [97 + j] := by
            have h := nm_clamp (x := nmS j) (show 1 ≤ 1 + j ∧ 1 + j ≤ 26 by omega)
            have h2 : 96 + nmS j = 97 + j := by show 96 + (1 + j) = 97 + j; omega
            rw [h2] at h
            exact h
          unfold peL
          have eb : nmL (bnF (d5 % B)).toNatClampNeg = [120 + d5 % B] := by
            have h := nm_clamp (x := nbS (d5 % B)) (show 1 ≤ 24 + d5 % B ∧ 24 + d5 % B ≤ 26 by omega)
            have h2 : 96 + nbS (d5 % B) = 120 + d5 % B := by show 96 + (24 + d5 % B) = 120 + d5 % B; omega
            rw [h2] at h
            exact h
          have hm2 : ∀ b, b < 20 → ¬ nI b = -2 := by decide
          rw [en, obS_s (o := fun i => if i = j then d5 % B + 1 else o i) (i := j) (b := d5 % B) pe_own]
          unfold ofL
          rw [if_neg (hm2 _ (by omega)), nI_clamp (by omega), eb]
          simp only [List.append_assoc]
        rw [e2]
        simp only [List.append_assoc, List.nil_append]
      refine lv_pop S.1 S.2.1 dL_setup_291 rfl ?_
      refine lv_iinc (v := (nI (j + 1))) (lv' := [(3, .int (nI (j + 1))), (2, .int (nI B)), (1, .ref b), (0, .ref qa)]) S.1 S.2.1 dL_setup_292 hl (k := 0) rfl ((nI_succ j).symm) (by decide) rfl (fun ls hl => ?_)
      refine lv_goto (tgt := 202) S.1 S.2.1 dL_setup_295 (by decide) ?_
      exact kk hP hD hS hQ hku hsk hf hn h16 hm hL (o := (fun i => if i = j then (d5 % B + 1) else o i)) (o_le ho hdn) eX (by omega) (lv_sub hl [0, 1, 2, 3] rfl)
    · refine va_ldcS (own := RL) (q := D.2 200 37) S.1 S.2.1 S.2.2.2.1 (ldS_38 hE) dL_setup_250 ?_
      refine lv_goto (tgt := 288) S.1 S.2.1 dL_setup_252 (by decide) ?_
      refine bw_lit (i := 37) (M := 1000) (cb := (2 + 6 * j)) (sb := (30 + 120 * j)) S qw1002 hK hP hD hE hS hA hf hn h16 hm (Nat.le_of_ble_eq_true rfl) hL (by decide) rfl lit_asc37 (by decide) (by show 2 * (k2 + 1) ≤ 1000; omega) hl.1 (Nat.le_of_ble_eq_true rfl) ⟨(Nat.le_of_ble_eq_true rfl), (Nat.le_of_ble_eq_true rfl)⟩ ⟨(by show (2 + 6 * j) + 1000 / 16 ≤ 160; omega), (by show (30 + 120 * j) + 2 * 1000 ≤ 4000; omega)⟩ dL_setup_288 (fun H locs v1 f k4 m e1 hL hf hn h16 hm hP hD hS => ?_)
      have hb : k4 ≤ 150 + 14 * j + 7 + 1 + 1 := by have e2 : k4 = k2 + 1 := e1; omega
      clear e1
      have hL : BC f k4 ((((X ++ [112, 101, 114, 115, 111, 110, 32]) ++ [97 + j]) ++ [59]).map nI) := by
        rw [List.map_append, ← lsN37]
        exact hL
      have eX : (((X ++ [112, 101, 114, 115, 111, 110, 32]) ++ [97 + j]) ++ [59]) = NT ms B ++ flat (peL pnF bnF (obS (fun i => if i = j then 0 else o i))) (j + 1) := by
        show _ = NT ms B ++ (flat (peL pnF bnF (obS (fun i => if i = j then 0 else o i))) j ++ peL pnF bnF (obS (fun i => if i = j then 0 else o i)) j)
        rw [pe_new, hX]
        have e2 : peL pnF bnF (obS (fun i => if i = j then 0 else o i)) j = [112, 101, 114, 115, 111, 110, 32] ++ ([97 + j] ++ [59]) := by
          have en : nmL (pnF j).toNatClampNeg = [97 + j] := by
            have h := nm_clamp (x := nmS j) (show 1 ≤ 1 + j ∧ 1 + j ≤ 26 by omega)
            have h2 : 96 + nmS j = 97 + j := by show 96 + (1 + j) = 97 + j; omega
            rw [h2] at h
            exact h
          unfold peL
          rw [en, obS_0 (o := fun i => if i = j then 0 else o i) (i := j) pe_own]
          unfold ofL
          rw [if_pos rfl, List.nil_append]
        rw [e2]
        simp only [List.append_assoc, List.nil_append]
      refine lv_pop S.1 S.2.1 dL_setup_291 rfl ?_
      refine lv_iinc (v := (nI (j + 1))) (lv' := [(3, .int (nI (j + 1))), (2, .int (nI B)), (1, .ref b), (0, .ref qa)]) S.1 S.2.1 dL_setup_292 hl (k := 0) rfl ((nI_succ j).symm) (by decide) rfl (fun ls hl => ?_)
      refine lv_goto (tgt := 202) S.1 S.2.1 dL_setup_295 (by decide) ?_
      refine W.more (cells' := (2 + 6 * (j + 1)) + m / 16) (slots' := (30 + 120 * (j + 1)) + 2 * m) ?_ (by omega) (by omega)
      exact kk hP hD hS hQ hku hsk hf hn h16 hm hL (o := (fun i => if i = j then 0 else o i)) (o_le ho (Nat.zero_le _)) eX (by omega) (lv_sub hl [0, 1, 2, 3] rfl)
set_option maxHeartbeats 4000000 in
set_option maxRecDepth 100000 in
theorem se_ps (S : CallFix pg mi co cL_setup 4 s ar lw_all RL) (hK : va_K D vwCl (gTys D) s) (hE : EV D A s s.heap) (hA : ∀ q, s.heap.size ≤ q → A q) (hG : DGf A s s.heap) (hC : CN s) (hr : me.sig.returnType = some (.object "java/lang/String")) (hlk : me.locks = false) (hms : NB (mL ms)) (hB : B ≤ 3) (r : Nat) {j : Nat} (hP : va_P D vwCl (u ++ sbW D b v1 m f n) H) (hD : va_D A (u ++ sbW D b v1 m f n)) (hS : va_S A s.heap H locs) (hQ : QW D k u qa y) (hku : k < u.length) (hsk : Same w0 u k 1) (hf : fbt f) (hn : n ≤ m) (h16 : 16 ≤ m) (hm : m ≤ 1000) (hL : BC f n (X.map nI)) {o : Nat → Nat} (ho : ∀ i, i < j → o i ≤ B) (hX : X = NT ms B ++ flat (peL pnF bnF (obS o)) j) (hb : n ≤ 150 + 14 * j) (hl : lv_has ls 4 [(3, .int (nI j)), (2, .int (nI B)), (1, .ref b), (0, .ref qa)]) (hj : j + r = 9) : W pg l en ({ frames := 10, cells := 160, slots := 4000, locals := 340 } : Room) s mi ar below me co H locs ((2 + 6 * j) + m / 16) ((30 + 120 * j) + 2 * m) (MQ below (seQ D A w0 k qa) ar s 160 4000 A) (F0 mi 202 ls []) := by
  induction r generalizing j X n m f v1 u y H locs ls o with
  | zero =>
    have hj : j = 9 := hj
    subst hj
    refine lv_iload_n S.1 S.2.1 dL_setup_202 rfl (lv_at hl 0 rfl) ?_
    refine lv_iconst (v := 2) S.1 S.2.1 dL_setup_203 (by decide) ?_
    refine lv_icmp_lt (tgt := 223) S.1 S.2.1 dL_setup_204 (by decide) (fun z9 => absurd z9 (by decide)) (fun _ => ?_)
    refine lv_iload_n S.1 S.2.1 dL_setup_207 rfl (lv_at hl 0 rfl) ?_
    refine lv_bipush (v := 9) S.1 S.2.1 dL_setup_208 (by decide) ?_
    refine lv_icmp_ge (tgt := 298) S.1 S.2.1 dL_setup_210 (by decide) (fun _ => ?_) (fun z9 => absurd (Int32.le_refl _) z9)
    exact se_end S hK hE hA hG hC hr hlk (j := 9) hP hD hS hQ hku hsk hf hn h16 hm hL ho hX hms (by decide) (Nat.le_refl _) hB hb (lv_sub hl [2, 3] rfl)
  | succ r ih =>
    by_cases c2 : j < 2
    · refine lv_iload_n S.1 S.2.1 dL_setup_202 rfl (lv_at hl 0 rfl) ?_
      refine lv_iconst (v := 2) S.1 S.2.1 dL_setup_203 (by decide) ?_
      refine lv_icmp_lt (tgt := 223) S.1 S.2.1 dL_setup_204 (by decide) (fun _ => ?_) (fun z9 => absurd (nI_lt c2 (by decide)) z9)
      exact se_pe S hK hE hA hG hC hr hlk (by omega) hB hP hD hS hQ hku hsk hf hn h16 hm hL ho hX (fun {u} {y} {v1} {m} {n} {f} {X} {H} {locs} {ls} {o} hP hD hS hQ hku hsk hf hn h16 hm hL ho hX hb hl => ih (j := j + 1) hP hD hS hQ hku hsk hf hn h16 hm hL ho hX hb hl (by omega)) hb hl
    · refine lv_iload_n S.1 S.2.1 dL_setup_202 rfl (lv_at hl 0 rfl) ?_
      refine lv_iconst (v := 2) S.1 S.2.1 dL_setup_203 (by decide) ?_
      refine lv_icmp_lt (tgt := 223) S.1 S.2.1 dL_setup_204 (by decide) (fun z9 => absurd z9 (fun z9 => c2 ((nI_ltI (b := 2) (by omega) (by decide)).mp z9))) (fun _ => ?_)
      refine lv_iload_n S.1 S.2.1 dL_setup_207 rfl (lv_at hl 0 rfl) ?_
      refine lv_bipush (v := 9) S.1 S.2.1 dL_setup_208 (by decide) ?_
      refine lv_icmp_ge (tgt := 298) S.1 S.2.1 dL_setup_210 (by decide) (fun z9 => absurd z9 (fun z9 => absurd ((nI_leI (a := 9) (by decide) (by omega)).mp z9) (by omega))) (fun _ => ?_)
      refine lv_aload_n S.1 S.2.1 dL_setup_213 rfl (lv_at hl 3 rfl) ?_
      refine x_aftQ (st1 := [.int (drw (dnx y))]) (x_St0 (As := [.ref qa]) (rest := []) S ms_L_draw qw972 (l_drawS l D A (u ++ sbW D b v1 m f n) (hQ.app hku)) hK hP hD (hE.kept hS.2.1) rfl rfl hl.1 (Nat.le_of_ble_eq_true rfl) rfl rfl ⟨(Nat.le_of_ble_eq_true rfl), (Nat.le_of_ble_eq_true rfl)⟩ ⟨(by show (2 + 6 * j) + m / 16 + 0 ≤ 160; omega), (by show (30 + 120 * j) + 2 * m + 0 ≤ 4000; omega)⟩ dL_setup_214) hS (fun _ h => h) rfl (fun w1 H locs hq hP hD hz hk hS => ?_)
      obtain ⟨hQ1, hsm⟩ := hq
      clear hz hk
      obtain ⟨u, rfl, hsu⟩ := w_sameK hsm hku
      clear hsm
      have hku : k < u.length := by rw [hsu.1]; exact hku
      have hQ := hQ1.left hku
      have hsk := hsk.trans hsu
      clear hQ1 hsu
      obtain ⟨d1, hd1, ed1⟩ := drw_at (dnx y)
      rw [ed1]
      clear ed1
      generalize dnx y = y at hQ
      refine lv_bipush (v := 7) S.1 S.2.1 dL_setup_217 (by decide) ?_
      refine lv_irem S.1 S.2.1 dL_setup_219 (by decide) ?_
      rw [show nI d1 - nI d1 / 7 * 7 = nI (d1 % 7) from pk_rem (d := 7) (by omega) (by decide) (by decide)]
      refine lv_if_le (tgt := 298) S.1 S.2.1 dL_setup_220 (by decide) (fun c3 => ?_) (fun c3 => ?_)
      · exact se_end S hK hE hA hG hC hr hlk (j := j) hP hD hS hQ hku hsk hf hn h16 hm hL ho hX hms (by omega) (by omega) hB hb (lv_sub hl [2, 3] rfl)
      · exact se_pe S hK hE hA hG hC hr hlk (by omega) hB hP hD hS hQ hku hsk hf hn h16 hm hL ho hX (fun {u} {y} {v1} {m} {n} {f} {X} {H} {locs} {ls} {o} hP hD hS hQ hku hsk hf hn h16 hm hL ho hX hb hl => ih (j := j + 1) hP hD hS hQ hku hsk hf hn h16 hm hL ho hX hb hl (by omega)) hb hl
set_option maxHeartbeats 4000000 in
set_option maxRecDepth 100000 in
theorem se_bo (S : CallFix pg mi co cL_setup 4 s ar lw_all RL) (hK : va_K D vwCl (gTys D) s) (hE : EV D A s s.heap) (hA : ∀ q, s.heap.size ≤ q → A q) (hG : DGf A s s.heap) (hC : CN s) (hr : me.sig.returnType = some (.object "java/lang/String")) (hlk : me.locks = false) (hms : NB (mL ms)) (hB : B ≤ 3) (r : Nat) {j : Nat} (hP : va_P D vwCl (u ++ sbW D b v1 m f n) H) (hD : va_D A (u ++ sbW D b v1 m f n)) (hS : va_S A s.heap H locs) (hQ : QW D k u qa y) (hku : k < u.length) (hsk : Same w0 u k 1) (hf : fbt f) (hn : n ≤ m) (h16 : 16 ≤ m) (hm : m ≤ 1000) (hL : BC f n (X.map nI)) (hX : X = NLx (nuF ms) ++ flat (boL bnF) j) (hb : n ≤ 103 + 7 * j) (hl : lv_has ls 4 [(3, .int (nI j)), (2, .int (nI B)), (1, .ref b), (0, .ref qa)]) (hj : j + r = B) : W pg l en ({ frames := 10, cells := 160, slots := 4000, locals := 340 } : Room) s mi ar below me co H locs (2 + m / 16) (30 + 2 * m) (MQ below (seQ D A w0 k qa) ar s 160 4000 A) (F0 mi 169 ls []) := by
  induction r generalizing j X n m f v1 u y H locs ls with
  | zero =>
    have hj : j = B := hj
    subst hj
    refine lv_iload_n S.1 S.2.1 dL_setup_169 rfl (lv_at hl 0 rfl) ?_
    refine lv_iload_n S.1 S.2.1 dL_setup_170 rfl (lv_at hl 1 rfl) ?_
    refine lv_icmp_ge (tgt := 200) S.1 S.2.1 dL_setup_171 (by decide) (fun _ => ?_) (fun z9 => absurd (Int32.le_refl _) z9)
    refine lv_iconst (v := 0) S.1 S.2.1 dL_setup_200 (by decide) ?_
    refine lv_istore_n (lv' := [(3, .int 0), (2, .int (nI j)), (1, .ref b), (0, .ref qa)]) S.1 S.2.1 dL_setup_201 rfl hl (by decide) rfl (fun ls hl => ?_)
    exact se_ps S hK hE hA hG hC hr hlk (ms := ms) (B := j) hms hB 9 (j := 0) (o := fun _ => 0) hP hD hS hQ hku hsk hf hn h16 hm hL (fun i hi => absurd hi (Nat.not_lt_zero _)) (by rw [hX]; exact (List.append_nil _).symm) (by omega) (lv_sub hl [0, 1, 2, 3] rfl) rfl
  | succ r ih =>
    refine lv_iload_n S.1 S.2.1 dL_setup_169 rfl (lv_at hl 0 rfl) ?_
    refine lv_iload_n S.1 S.2.1 dL_setup_170 rfl (lv_at hl 1 rfl) ?_
    refine lv_icmp_ge (tgt := 200) S.1 S.2.1 dL_setup_171 (by decide) (fun z9 => absurd z9 (fun z9 => absurd ((nI_leI (by omega) (by omega)).mp z9) (by omega))) (fun _ => ?_)
    refine lv_aload_n S.1 S.2.1 dL_setup_174 rfl (lv_at hl 2 rfl) ?_
    refine va_ldcS (own := RL) (q := D.2 200 27) S.1 S.2.1 S.2.2.2.1 (ldS_39 hE) dL_setup_175 ?_
    refine bw_lit (i := 27) (M := 1000) (cb := 2) (sb := 30) S qw1002 hK hP hD hE hS hA hf hn h16 hm (Nat.le_of_ble_eq_true rfl) hL (by decide) rfl lit_asc27 (by decide) (by show 2 * (n + 5) ≤ 1000; omega) hl.1 (Nat.le_of_ble_eq_true rfl) ⟨(Nat.le_of_ble_eq_true rfl), (Nat.le_of_ble_eq_true rfl)⟩ ⟨(by show 2 + 1000 / 16 ≤ 160; omega), (by show 30 + 2 * 1000 ≤ 4000; omega)⟩ dL_setup_177 (fun H locs v1 f k1 m e1 hL hf hn h16 hm hP hD hS => ?_)
    have hb : k1 ≤ 103 + 7 * j + 5 := by have e2 : k1 = n + 5 := e1; omega
    clear e1
    have hL : BC f k1 ((X ++ [98, 111, 97, 116, 32]).map nI) := by
      rw [List.map_append, ← lsN27]
      exact hL
    refine lv_bipush (v := 120) S.1 S.2.1 dL_setup_180 (by decide) ?_
    refine lv_iload_n S.1 S.2.1 dL_setup_182 rfl (lv_at hl 0 rfl) ?_
    refine lv_iadd S.1 S.2.1 dL_setup_183 ?_
    rw [show (120 : Int32) + nI (j) = nI (120 + j) from nI_add 120 (j)]
    refine lv_i2c (v := (nI (120 + j))) S.1 S.2.1 dL_setup_184 (asc_ok (asc_ofN _ (by omega))).2.2.1 ?_
    refine bw_ch (c := nI (120 + j)) (M := 1000) (cb := 2) (sb := 30) S qw1003 hK hP hD hE hS hA hf hn h16 hm (Nat.le_of_ble_eq_true rfl) hL (asc_ofN _ (by omega)) (by show 2 * (k1 + 1) ≤ 1000; omega) hl.1 (Nat.le_of_ble_eq_true rfl) ⟨(Nat.le_of_ble_eq_true rfl), (Nat.le_of_ble_eq_true rfl)⟩ ⟨(by show 2 + 1000 / 16 ≤ 160; omega), (by show 30 + 2 * 1000 ≤ 4000; omega)⟩ dL_setup_185 (fun H locs v1 f k2 m e1 hL hf hn h16 hm hP hD hS => ?_)
    have hb : k2 ≤ 103 + 7 * j + 5 + 1 := by have e2 : k2 = k1 + 1 := e1; omega
    clear e1
    have hL : BC f k2 (((X ++ [98, 111, 97, 116, 32]) ++ [120 + j]).map nI) := by
      rw [List.map_append]
      exact hL
    refine va_ldcS (own := RL) (q := D.2 200 37) S.1 S.2.1 S.2.2.2.1 (ldS_38 hE) dL_setup_188 ?_
    refine bw_lit (i := 37) (M := 1000) (cb := 2) (sb := 30) S qw1002 hK hP hD hE hS hA hf hn h16 hm (Nat.le_of_ble_eq_true rfl) hL (by decide) rfl lit_asc37 (by decide) (by show 2 * (k2 + 1) ≤ 1000; omega) hl.1 (Nat.le_of_ble_eq_true rfl) ⟨(Nat.le_of_ble_eq_true rfl), (Nat.le_of_ble_eq_true rfl)⟩ ⟨(by show 2 + 1000 / 16 ≤ 160; omega), (by show 30 + 2 * 1000 ≤ 4000; omega)⟩ dL_setup_190 (fun H locs v1 f k3 m e1 hL hf hn h16 hm hP hD hS => ?_)
    have hb : k3 ≤ 103 + 7 * j + 5 + 1 + 1 := by have e2 : k3 = k2 + 1 := e1; omega
    clear e1
    have hL : BC f k3 ((((X ++ [98, 111, 97, 116, 32]) ++ [120 + j]) ++ [59]).map nI) := by
      rw [List.map_append, ← lsN37]
      exact hL
    refine lv_pop S.1 S.2.1 dL_setup_193 rfl ?_
    refine lv_iinc (v := (nI (j + 1))) (lv' := [(3, .int (nI (j + 1))), (2, .int (nI B)), (1, .ref b), (0, .ref qa)]) S.1 S.2.1 dL_setup_194 hl (k := 0) rfl ((nI_succ j).symm) (by decide) rfl (fun ls hl => ?_)
    refine lv_goto (tgt := 169) S.1 S.2.1 dL_setup_197 (by decide) ?_
    have eX : (((X ++ [98, 111, 97, 116, 32]) ++ [120 + j]) ++ [59]) = NLx (nuF ms) ++ flat (boL bnF) (j + 1) := by
      show _ = NLx (nuF ms) ++ (flat (boL bnF) j ++ boL bnF j)
      have en : nmL (bnF j).toNatClampNeg = [120 + j] := by
        have h := nm_clamp (x := nbS j) (show 1 ≤ 24 + j ∧ 24 + j ≤ 26 by omega)
        have h2 : 96 + nbS j = 120 + j := by show 96 + (24 + j) = 120 + j; omega
        rw [h2] at h
        exact h
      rw [hX]
      unfold boL
      rw [en]
      simp only [List.append_assoc]
    exact ih (j := j + 1) hP hD hS hQ hku hsk hf hn h16 hm hL eX (by omega) (lv_sub hl [0, 1, 2, 3] rfl) (by omega)
end SETUP
