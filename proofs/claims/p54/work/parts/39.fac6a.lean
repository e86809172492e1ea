
theorem Blk.splice2 {w w' C C' c' : va_W} {k : Nat} (h : Blk w k C) (off : Nat) (h1 : Blk w' (k + off) c') (hs : ∀ j : Nat, k ≤ j → j < k + C.length → (j < k + off ∨ k + off + c'.length ≤ j) → w'[j]? = w[j]?) (hC : C.take off ++ (c' ++ C.drop (off + c'.length)) = C') (hl : off ≤ C.length) : Blk w' k C' := by
  subst hC
  intro i x hx
  have h2 : (C.take off).length = off := by rw [List.length_take]; omega
  by_cases g1 : i < off
  · rw [List.getElem?_append_left (by omega), List.getElem?_take_of_lt g1] at hx
    rw [hs (k + i) (by omega) (by omega) (by omega)]
    exact h i x hx
  · rw [List.getElem?_append_right (by omega), h2] at hx
    by_cases g2 : i - off < c'.length
    · rw [List.getElem?_append_left g2] at hx
      have h3 := h1 _ _ hx
      rw [show k + off + (i - off) = k + i by omega] at h3
      exact h3
    · rw [List.getElem?_append_right (by omega), List.getElem?_drop] at hx
      have hi : off + c'.length + (i - off - c'.length) < C.length := (List.getElem?_eq_some_iff.mp hx).1
      rw [hs (k + i) (by omega) (by omega) (by omega)]
      have h3 := h _ _ hx
      rw [show k + (off + c'.length + (i - off - c'.length)) = k + i by omega] at h3
      exact h3
theorem Blk.other2 {w w' C : va_W} {k : Nat} (h : Blk w k C) (hs : ∀ j : Nat, k ≤ j → j < k + C.length → w'[j]? = w[j]?) : Blk w' k C := by
  intro i x hx
  have hi : i < C.length := (List.getElem?_eq_some_iff.mp hx).1
  rw [hs (k + i) (by omega) (by omega)]
  exact h i x hx
theorem isSlot_vin {x : Int32} (h : f_X11_isSlot x = true) : vp_in x 2 := by
  unfold f_X11_isSlot at h
  cases q : f_X11_isIn x 2
  · rw [q] at h; cases h
  · exact isIn_vin (n := 2) (by decide) q
