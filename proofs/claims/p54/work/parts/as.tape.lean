/-! THE TAPE: twenty characters a call -/
def pw (ch : Nat → Nat) (b : Nat) : Nat → Nat
  | 0 => 0
  | t + 1 => pw ch b t * 256 + ch (b + t)
theorem pw_lt {ch : Nat → Nat} (h : ∀ i, ch i < 128) (b : Nat) : pw ch b 0 < 8388608 ∧ pw ch b 1 < 8388608 ∧ pw ch b 2 < 8388608 ∧ pw ch b 3 < 8388608 ∧ pw ch b 4 < 2147483648 := by
  have h0 := h (b + 0)
  have h1 := h (b + 1)
  have h2 := h (b + 2)
  have h3 := h (b + 3)
  unfold pw pw pw pw pw
  omega
theorem w_step {a c : Nat} (ha : a < 8388608) (hc : c < 256) : (nI a <<< ((8 : Int32) &&& 31)) ||| nI c = nI (a * 256 + c) := by
  rw [pk_shlN _ 8 (by decide) (by omega), or_nI]
  have e := Nat.two_pow_add_eq_or_of_lt (i := 8) (b := c) (by omega) a
  have e2 : a * 2 ^ 8 = 2 ^ 8 * a := Nat.mul_comm _ _
  rw [e2, ← e]
theorem by_at {W k c : Nat} (hW : W < 2147483648) (h : W / 2 ^ k % 256 = c) (hc : c < 128) (s : Int32) (hs : (s.toBitVec.smod 32).toNat = k) : vp_nar .byte (nI W >>> s).toInt8.toInt32 = nI c := by
  have hq : W / 2 ^ k ≤ W := Nat.div_le_self _ _
  rw [pk_shrN (by omega) s k hs]
  have e : (nI (W / 2 ^ k)).toInt8 = (nI c).toInt8 := byte_sh (by
    rw [nI_toInt (by omega), nI_toInt (by omega)]
    omega)
  rw [e]
  exact byte_128 c hc
theorem aw_at (tp : Nat → Int32) {n : Nat} (hn : n + 4 ≤ 800) (v : Int32) : f_X1_addWhole 800 tp (nI n) v = (upd (upd (upd (upd tp n (vp_nar .byte (v >>> ((24 : Int32) &&& 31)).toInt8.toInt32)) (n + 1) (vp_nar .byte (v >>> ((16 : Int32) &&& 31)).toInt8.toInt32)) (n + 2) (vp_nar .byte (v >>> ((8 : Int32) &&& 31)).toInt8.toInt32)) (n + 3) (vp_nar .byte (v >>> ((0 : Int32) &&& 31)).toInt8.toInt32), nI (n + 4)) := by
  have add : ∀ (f : Nat → Int32) (k : Nat) (x : Int32), k < 800 → f_X1_add 800 f (nI k) x = (upd f k (vp_nar .byte x.toInt8.toInt32), nI (k + 1)) := fun f k x hk => by
    unfold f_X1_add
    rw [if_neg (nI_pos (by omega)), if_pos (nI_lt (by omega) (by omega)), nI_clamp (by omega), nI_1]
  unfold f_X1_addWhole S_X1_addWhole_11c S_X1_addWhole_11b S_X1_addWhole_11a S_X1_addWhole_11
  rw [add tp n _ (by omega), byte_24]
  dsimp only
  rw [add _ (n + 1) _ (by omega), byte_16]
  dsimp only
  rw [add _ (n + 1 + 1) _ (by omega), byte_8]
  dsimp only
  rw [add _ (n + 1 + 1 + 1) _ (by omega), byte_0]
theorem aw_ch {tp : Nat → Int32} {ch : Nat → Nat} {n : Nat} (hn : n + 4 ≤ 800) (hch : ∀ i, ch i < 128) (ht : ∀ j, j < n → tp j = nI (ch j)) : ∃ tp', f_X1_addWhole 800 tp (nI n) (nI (pw ch n 4)) = (tp', nI (n + 4)) ∧ ∀ j, j < n + 4 → tp' j = nI (ch j) := by
  refine ⟨_, aw_at tp hn _, fun j hj => ?_⟩
  have hl := (pw_lt hch n).2.2.2.2
  have c0 := hch n
  have c1 := hch (n + 1)
  have c2 := hch (n + 2)
  have c3 := hch (n + 3)
  have e : pw ch n 4 = ((ch n * 256 + ch (n + 1)) * 256 + ch (n + 2)) * 256 + ch (n + 3) := by
    show (((0 * 256 + ch (n + 0)) * 256 + ch (n + 1)) * 256 + ch (n + 2)) * 256 + ch (n + 3) = _
    rw [Nat.zero_mul, Nat.zero_add, Nat.add_zero]
  have b3 := by_at (k := 24) (c := ch n) hl (by rw [e]; omega) c0 ((24 : Int32) &&& 31) (by decide)
  have b2 := by_at (k := 16) (c := ch (n + 1)) hl (by rw [e]; omega) c1 ((16 : Int32) &&& 31) (by decide)
  have b1 := by_at (k := 8) (c := ch (n + 2)) hl (by rw [e]; omega) c2 ((8 : Int32) &&& 31) (by decide)
  have b0 := by_at (k := 0) (c := ch (n + 3)) hl (by rw [e]; omega) c3 ((0 : Int32) &&& 31) (by decide)
  rw [b0, b1, b2, b3]
  unfold upd
  by_cases q3 : j = n + 3
  · rw [if_pos q3, q3]
  rw [if_neg q3]
  by_cases q2 : j = n + 2
  · rw [if_pos q2, q2]
  rw [if_neg q2]
  by_cases q1 : j = n + 1
  · rw [if_pos q1, q1]
  rw [if_neg q1]
  by_cases q0 : j = n
  · rw [if_pos q0, q0]
  rw [if_neg q0]
  exact ht j (by omega)
theorem ap_ch {tp : Nat → Int32} {ch : Nat → Nat} {n : Nat} (hn : n + 20 ≤ 800) (hch : ∀ i, ch i < 128) (ht : ∀ j, j < n → tp j = nI (ch j)) : ∃ tp', f_X11_append tp (nI n) (nI (pw ch n 4)) (nI (pw ch (n + 4) 4)) (nI (pw ch (n + 4 + 4) 4)) (nI (pw ch (n + 4 + 4 + 4) 4)) (nI (pw ch (n + 4 + 4 + 4 + 4) 4)) = (nI (n + 20), nI (n + 20), tp') ∧ ∀ j, j < n + 20 → tp' j = nI (ch j) := by
  obtain ⟨t1, x1, h1⟩ := aw_ch (by omega) hch ht
  obtain ⟨t2, x2, h2⟩ := aw_ch (by omega) hch h1
  obtain ⟨t3, x3, h3⟩ := aw_ch (by omega) hch h2
  obtain ⟨t4, x4, h4⟩ := aw_ch (by omega) hch h3
  obtain ⟨t5, x5, h5⟩ := aw_ch (by omega) hch h4
  generalize pw ch n 4 = a1 at x1 ⊢
  generalize pw ch (n + 4) 4 = a2 at x2 ⊢
  generalize pw ch (n + 4 + 4) 4 = a3 at x3 ⊢
  generalize pw ch (n + 4 + 4 + 4) 4 = a4 at x4 ⊢
  generalize pw ch (n + 4 + 4 + 4 + 4) 4 = a5 at x5 ⊢
  have s5 : S_X11_append_57 tp (nI n) (nI a1) (nI a2) (nI a3) (nI a4) (nI a5) = (t5, nI (n + 4 + 4 + 4 + 4 + 4)) := by
    unfold S_X11_append_57 S_X11_append_48 S_X11_append_39 S_X11_append_31 S_X11_append_23
    rw [x1]
    dsimp only
    rw [x2]
    dsimp only
    rw [x3]
    dsimp only
    rw [x4]
    dsimp only
    rw [x5]
  refine ⟨t5, ?_, fun j hj => h5 j (by omega)⟩
  unfold f_X11_append
  rw [show (nI n + 20 : Int32) = nI (n + 20) from nI_add n 20, if_pos (show nI (n + 20) ≤ 800 from nI_le (b := 800) hn (by decide)), s5]
/-- the village is as it was; the tape bears n characters of ch -/
def TPS (v0 v : VT) (n : Nat) (ch : Nat → Nat) : Prop := v.1 = v0.1 ∧ v.2.1 = v0.2.1 ∧ v.2.2.1 = v0.2.2.1 ∧ v.2.2.2.1 = v0.2.2.2.1 ∧ v_err v = v_err v0 ∧ v_tl v = nI n ∧ ∀ j, j < n → v_tp v j = nI (ch j)
theorem tps_app {v0 v : VT} {n : Nat} {ch : Nat → Nat} (h : TPS v0 v n ch) (hn : n + 20 ≤ 800) (hch : ∀ i, ch i < 128) : TPS v0 (n_append v (nI (pw ch n 4)) (nI (pw ch (n + 4) 4)) (nI (pw ch (n + 4 + 4) 4)) (nI (pw ch (n + 4 + 4 + 4) 4)) (nI (pw ch (n + 4 + 4 + 4 + 4) 4))) (n + 20) ch := by
  obtain ⟨h1, h2, h3, h4, h5, h6, h7⟩ := h
  obtain ⟨tp', e, ht⟩ := ap_ch hn hch h7
  rw [← h6] at e
  unfold n_append
  rw [e]
  exact ⟨h1, h2, h3, h4, h5, rfl, ht⟩
theorem tps_cut {v0 v : VT} {m n : Nat} {ch : Nat → Nat} (h : TPS v0 v m ch) (hm : m ≤ 800) (hn : n ≤ m) {x : Int32} (hx : x = nI (m - n)) : TPS v0 (n_truncate v x) n ch := by
  obtain ⟨h1, h2, h3, h4, h5, h6, h7⟩ := h
  have e : f_X11_truncate (v_tl v) x = (nI n, nI n) := by
    rw [h6, hx]
    unfold f_X11_truncate S_X11_truncate_30 f_X1_cutTo
    rw [if_neg (nI_pos (by omega)), if_pos (nI_le (by omega) (by omega)), nI_sub (by omega), show m - (m - n) = n by omega, if_neg (nI_pos (by omega)), if_neg (fun z => absurd ((nI_ltI (by omega) (by omega)).mp z) (by omega))]
  unfold n_truncate
  rw [e]
  exact ⟨h1, h2, h3, h4, h5, rfl, fun j hj => h7 j (by omega)⟩
theorem ra_tl {N P B Q : Nat} {v : VT} (hR : RA N P B Q v) : ∃ m, v_tl v = nI m ∧ m ≤ 800 := by
  obtain ⟨mTaped, mErr, mPpl, mBts, mUs, mTape, mNum, mNam, mFst, mBnm, mW, mUn, mSl, mKp, hR⟩ := hR
  obtain ⟨n, e, -, hn, -⟩ := hR.2.2.2.2.1
  exact ⟨n, e, hn⟩
theorem tps_0 {N P B Q : Nat} {v : VT} (hR : RA N P B Q v) (ch : Nat → Nat) : TPS v (n_truncate v (a_tapeLength v)) 0 ch := by
  obtain ⟨m, e, hm⟩ := ra_tl hR
  have e2 : a_tapeLength v = nI m := e
  have e3 : f_X11_truncate (v_tl v) (a_tapeLength v) = (nI 0, nI 0) := by
    rw [e2, e]
    unfold f_X11_truncate S_X11_truncate_30 f_X1_cutTo
    rw [if_neg (nI_pos (by omega)), if_pos (nI_le (Nat.le_refl _) (by omega)), nI_sub (Nat.le_refl _), Nat.sub_self, if_neg (nI_pos (by decide)), if_neg (fun z => absurd ((nI_ltI (by omega) (by omega)).mp z) (by omega))]
  unfold n_truncate
  rw [e3]
  exact ⟨rfl, rfl, rfl, rfl, rfl, rfl, fun j hj => absurd hj (Nat.not_lt_zero _)⟩
