/-! TEXTS as lists of bytes; builders that hold one -/
def BC (f : Nat → Int32) (n : Nat) (L : List Int32) : Prop := L.length = n ∧ ∀ j, j < n → f j = L[j]?.getD 0
theorem BC.app {f f1 : Nat → Int32} {n : Nat} {L L2 : List Int32} (h : BC f n L) (h0 : ∀ j, j < n → f1 j = f j) (h1 : ∀ j, j < L2.length → f1 (n + j) = L2[j]?.getD 0) : BC f1 (n + L2.length) (L ++ L2) := by
  refine ⟨by rw [List.length_append, h.1], fun j hj => ?_⟩
  rcases Nat.lt_or_ge j n with hn | hn
  · rw [List.getElem?_append_left (by rw [h.1]; exact hn), h0 j hn, h.2 j hn]
  · rw [List.getElem?_append_right (by rw [h.1]; exact hn), h.1]
    have := h1 (j - n) (by omega)
    rw [show n + (j - n) = j by omega] at this
    exact this
theorem BC.eq {f g : Nat → Int32} {n k : Nat} {L : List Int32} (h : BC f n L) (h1 : BC g k L) : n = k ∧ ∀ j, j < n → f j = g j := by
  have e : n = k := h.1.symm.trans h1.1
  exact ⟨e, fun j hj => (h.2 j hj).trans (h1.2 j (e ▸ hj)).symm⟩
theorem BC.of {f : Nat → Int32} {n : Nat} {g : Nat → Int32} (h : ∀ j, j < n → f j = g j) : BC f n ((List.range n).map g) := by
  refine ⟨by rw [List.length_map, List.length_range], fun j hj => ?_⟩
  rw [List.getElem?_map, List.getElem?_range hj]
  exact h j hj
def digL (k : Nat) : List Int32 := (List.range (sz k)).map (fun j => dig k (sz k - 1 - j))
theorem digL_len {k : Nat} : (digL k).length = sz k := by unfold digL; rw [List.length_map, List.length_range]
theorem digL_at {k j : Nat} (h : j < sz k) : (digL k)[j]?.getD 0 = dig k (sz k - 1 - j) := by
  unfold digL
  rw [List.getElem?_map, List.getElem?_range h]
  rfl
/-- a number's text -/
def decL (x : Int32) : List Int32 := if x < 0 then 45 :: digL (-x.toInt).toNat else digL x.toInt.toNat
theorem decL_nI {k : Nat} (h : k < 2 ^ 31) : decL (nI k) = digL k := by
  unfold decL
  rw [if_neg (nI_pos h), nI_toInt h]
  rfl
theorem decL_mI {k : Nat} (h : k ≤ 2 ^ 31) (h0 : 0 < k) : decL (mI k) = 45 :: digL k := by
  unfold decL
  rw [if_pos (by rw [Int32.lt_iff_toInt_lt, mI_toInt h, Int32.toInt_zero]; omega), mI_toInt h, Int.neg_neg]
  rfl
theorem i32_split (x : Int32) : (∃ k : Nat, k < 2 ^ 31 ∧ x = nI k) ∨ (∃ k : Nat, 0 < k ∧ k ≤ 2 ^ 31 ∧ x = mI k) := by
  have h1 := Int32.toInt_lt x
  have h2 := Int32.le_toInt x
  rcases Int.lt_or_le x.toInt 0 with h | h
  · refine .inr ⟨(-x.toInt).toNat, by omega, by omega, Int32.toInt_inj.mp ?_⟩
    rw [mI_toInt (by omega)]
    omega
  · refine .inl ⟨x.toInt.toNat, by omega, Int32.toInt_inj.mp ?_⟩
    rw [nI_toInt (by omega)]
    omega
theorem decL_le (x : Int32) : (decL x).length ≤ 11 := by
  unfold decL
  split
  · rw [List.length_cons, digL_len]
    have := sz_le (-x.toInt).toNat
    omega
  · rw [digL_len]
    have := sz_le x.toInt.toNat
    omega
theorem Tx.moreb {A : Nat → Prop} {U : State} {H : Heap} {a v n : Nat} {b c : Nat → Int32} (h : Tx A U H a v n b) (hb : b = c) : Tx A U H a v n c := hb ▸ h
section SB3
variable {p : Program} {l : Launch} {e : Env} {R : Room} {s : State} {mi : MethodId} {args : Array Value} {below : List Frame} {meth : Method} {c0 : Code} {H : Heap} {locs : List Loc} {cells slots : Nat} {Z : State → Prop} {cc : ByteArray} {nL pc index : Nat} {ls : Array Slot} {rest : List Value} {D : va_G} {A : Nat → Prop} {own : String} {u : va_W} {b v m n : Nat} {f : Nat → Int32} {L : List Int32}
set_option maxHeartbeats 4000000 in
theorem bc_ch (S : CallFix p mi c0 cc nL s args lw_all own) (K : Cond.methodLink own index yJ4_append_cf468 ∈ lw_all) (hK : va_K D vwCl (gTys D) s) (hP : va_P D vwCl (u ++ sbW D b v m f n) H) (hD : va_D A (u ++ sbW D b v m f n)) (hE : EV D A s s.heap) (hS : va_S A s.heap H locs) (hA : ∀ q, s.heap.size ≤ q → A q) (hf : fbt f) (hn : n ≤ m) (hm : m < 65536) (hL : BC f n L) {c : Int32} (hc : asc c) (hls : ls.size = nL) (hW : (rest.map fun v => v.category).sum ≤ 8) (hR : 6 ≤ R.frames ∧ 170 ≤ R.locals) (hr : cells + capC (n + [c].length) m ≤ R.cells ∧ slots + capS (n + [c].length) m ≤ R.slots) (hdg : decode cc pc = .ok (.invokevirtual index, 3))
    (kk : ∀ (H1 : Heap) (locs1 : List Loc) (v1 : Nat) (f1 : Nat → Int32), BC f1 (n + [c].length) (L ++ [c]) → fbt f1 → va_P D vwCl (u ++ sbW D b v1 (capq (n + [c].length) m) f1 (n + [c].length)) H1 → va_D A (u ++ sbW D b v1 (capq (n + [c].length) m) f1 (n + [c].length)) → va_S A s.heap H1 locs1 → H.size ≤ H1.size → (∀ q : Nat, q < H.size → ¬ va_A (sbW D b v m f n) H.size q → H1[q]? = H[q]?) → W p l e R s mi args below meth c0 H1 locs1 (cells + capC (n + [c].length) m) (slots + capS (n + [c].length) m) Z (F0 mi (pc + 3) ls (.ref b :: rest))) :
    W p l e R s mi args below meth c0 H locs cells slots Z (F0 mi pc ls (.int c :: .ref b :: rest)) := by
  refine sb_ch S K hK hP hD hE hS hA hf hn hm hc hls hW hR hr hdg (fun H1 locs1 v1 f1 h0 h1 h2 hP1 hD1 hS1 hz hk => ?_)
  refine kk H1 locs1 v1 f1 (hL.app h0 (fun j hj => ?_)) h2 hP1 hD1 hS1 hz hk
  have : j = 0 := by have : j < 1 := hj; omega
  subst this
  exact h1
set_option maxHeartbeats 4000000 in
theorem bc_st (S : CallFix p mi c0 cc nL s args lw_all own) (K : Cond.methodLink own index yJ4_append_15ec4 ∈ lw_all) (hK : va_K D vwCl (gTys D) s) (hP : va_P D vwCl (u ++ sbW D b v m f n) H) (hD : va_D A (u ++ sbW D b v m f n)) (hE : EV D A s s.heap) (hS : va_S A s.heap H locs) (hA : ∀ q, s.heap.size ≤ q → A q) (hf : fbt f) (hn : n ≤ m) (hm : m < 65536) (hL : BC f n L) {a vs ns : Nat} {bs : Nat → Int32} {L2 : List Int32} (hb : ∀ j, j < ns → fits .byte (.int (bs j)) = true) (hns : ns < 65536) (hL2 : BC bs ns L2) (hT : Tx (va_A (sbW D b v m f n) H.size) s H a vs ns bs) (hls : ls.size = nL) (hW : (rest.map fun v => v.category).sum ≤ 8) (hR : 6 ≤ R.frames ∧ 170 ≤ R.locals) (hr : cells + capC (n + L2.length) m ≤ R.cells ∧ slots + capS (n + L2.length) m ≤ R.slots) (hdg : decode cc pc = .ok (.invokevirtual index, 3))
    (kk : ∀ (H1 : Heap) (locs1 : List Loc) (v1 : Nat) (f1 : Nat → Int32), BC f1 (n + L2.length) (L ++ L2) → fbt f1 → va_P D vwCl (u ++ sbW D b v1 (capq (n + L2.length) m) f1 (n + L2.length)) H1 → va_D A (u ++ sbW D b v1 (capq (n + L2.length) m) f1 (n + L2.length)) → va_S A s.heap H1 locs1 → H.size ≤ H1.size → (∀ q : Nat, q < H.size → ¬ va_A (sbW D b v m f n) H.size q → H1[q]? = H[q]?) → W p l e R s mi args below meth c0 H1 locs1 (cells + capC (n + L2.length) m) (slots + capS (n + L2.length) m) Z (F0 mi (pc + 3) ls (.ref b :: rest))) :
    W p l e R s mi args below meth c0 H locs cells slots Z (F0 mi pc ls (.ref a :: .ref b :: rest)) := by
  have e := hL2.1
  rw [e] at hr kk
  refine sb_st S K hK hP hD hE hS hA hf hn hm hb hns hT hls hW hR hr hdg (fun H1 locs1 v1 f1 h0 h1 h2 hP1 hD1 hS1 hz hk => ?_)
  refine kk H1 locs1 v1 f1 ?_ h2 hP1 hD1 hS1 hz hk
  have h3 := hL.app (f1 := f1) (L2 := L2) h0 (fun j hj => (h1 j (e ▸ hj)).trans (hL2.2 j (e ▸ hj)))
  rw [e] at h3
  exact h3
set_option maxHeartbeats 4000000 in
theorem bc_in (S : CallFix p mi c0 cc nL s args lw_all own) (K : Cond.methodLink own index yJ4_append_bf812 ∈ lw_all) (hK : va_K D vwCl (gTys D) s) (hP : va_P D vwCl (u ++ sbW D b v m f n) H) (hD : va_D A (u ++ sbW D b v m f n)) (hE : EV D A s s.heap) (hS : va_S A s.heap H locs) (hA : ∀ q, s.heap.size ≤ q → A q) (hf : fbt f) (hn : n ≤ m) (hm : m < 65536) (hL : BC f n L) {x : Int32} (hG : DGf (va_A (sbW D b v m f n) H.size) s H) (hls : ls.size = nL) (hW : (rest.map fun v => v.category).sum ≤ 8) (hR : 6 ≤ R.frames ∧ 170 ≤ R.locals) (hr : cells + capC (n + (decL x).length) m ≤ R.cells ∧ slots + capS (n + (decL x).length) m ≤ R.slots) (hdg : decode cc pc = .ok (.invokevirtual index, 3))
    (kk : ∀ (H1 : Heap) (locs1 : List Loc) (v1 : Nat) (f1 : Nat → Int32), BC f1 (n + (decL x).length) (L ++ (decL x)) → fbt f1 → va_P D vwCl (u ++ sbW D b v1 (capq (n + (decL x).length) m) f1 (n + (decL x).length)) H1 → va_D A (u ++ sbW D b v1 (capq (n + (decL x).length) m) f1 (n + (decL x).length)) → va_S A s.heap H1 locs1 → H.size ≤ H1.size → (∀ q : Nat, q < H.size → ¬ va_A (sbW D b v m f n) H.size q → H1[q]? = H[q]?) → W p l e R s mi args below meth c0 H1 locs1 (cells + capC (n + (decL x).length) m) (slots + capS (n + (decL x).length) m) Z (F0 mi (pc + 3) ls (.ref b :: rest))) :
    W p l e R s mi args below meth c0 H locs cells slots Z (F0 mi pc ls (.int x :: .ref b :: rest)) := by
  rcases i32_split x with ⟨k, h1, rfl⟩ | ⟨k, h0, h1, rfl⟩
  · rw [decL_nI h1] at hr kk
    have e : (digL k).length = sz k + 0 := digL_len
    rw [e] at hr kk
    refine sb_ip S K hK hP hD hE hS hA hf hn hm h1 hG hls hW hR hr hdg (fun H1 locs1 v1 f1 h0 h1 h2 hP1 hD1 hS1 hz hk => ?_)
    refine kk H1 locs1 v1 f1 ?_ h2 hP1 hD1 hS1 hz hk
    have h3 := hL.app (f1 := f1) (L2 := digL k) h0 (fun j hj => by
      rw [digL_len] at hj
      rw [digL_at hj]
      have := h1 (sz k - 1 - j) (by omega)
      rw [show n + (sz k + 0) - 1 - (sz k - 1 - j) = n + j by omega] at this
      exact this)
    rw [e] at h3
    exact h3
  · rw [decL_mI h1 h0] at hr kk
    have e : (45 :: digL k).length = sz k + 1 := by rw [List.length_cons, digL_len]
    rw [e] at hr kk
    refine sb_im S K hK hP hD hE hS hA hf hn hm h1 h0 hG hls hW hR hr hdg (fun H1 locs1 v1 f1 h0 h1 hd h2 hP1 hD1 hS1 hz hk => ?_)
    refine kk H1 locs1 v1 f1 ?_ h2 hP1 hD1 hS1 hz hk
    have h3 := hL.app (f1 := f1) (L2 := 45 :: digL k) h0 (fun j hj => by
      rw [e] at hj
      rcases Nat.eq_zero_or_pos j with hj0 | hj0
      · subst hj0
        exact h1
      · obtain ⟨i, rfl⟩ : ∃ i, j = i + 1 := ⟨j - 1, by omega⟩
        rw [List.getElem?_cons_succ, digL_at (by omega)]
        have := hd (sz k - 1 - i) (by omega)
        rw [show n + (sz k + 1) - 1 - (sz k - 1 - i) = n + (i + 1) by omega] at this
        exact this)
    rw [e] at h3
    exact h3
end SB3
