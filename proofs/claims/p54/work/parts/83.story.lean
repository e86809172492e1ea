/-! the words of both sides -/
theorem kw_hand (o w f : Int32) : f_X12_saysWord o w f 263620 = sL w (f, o) [104, 97, 110, 100] := by
  rw [says_wl (c := fun n => ([0, 0, 0, 0, 8, 1, 14, 4] : List Nat).getD n 0) (by decide +kernel)]
  rfl
theorem kw_laid (o w f : Int32) : f_X12_saysWord o w f 394532 = sL w (f, o) [108, 97, 105, 100] := by
  rw [says_wl (c := fun n => ([0, 0, 0, 0, 12, 1, 9, 4] : List Nat).getD n 0) (by decide +kernel)]
  rfl
theorem kw_struck (o w f : Int32) : f_X12_saysWord o w f 659117163 = sL w (f, o) [115, 116, 114, 117, 99, 107] := by
  rw [says_wl (c := fun n => ([0, 0, 19, 20, 18, 21, 3, 11] : List Nat).getD n 0) (by decide +kernel)]
  rfl
theorem kw_sails (o w f : Int32) : f_X12_saysWord o w f 19965331 = sL w (f, o) [115, 97, 105, 108, 115] := by
  rw [says_wl (c := fun n => ([0, 0, 0, 19, 1, 9, 12, 19] : List Nat).getD n 0) (by decide +kernel)]
  rfl
theorem kw_home (o w f : Int32) : f_X12_saysWord o w f 277925 = sL w (f, o) [104, 111, 109, 101] := by
  rw [says_wl (c := fun n => ([0, 0, 0, 0, 8, 15, 13, 5] : List Nat).getD n 0) (by decide +kernel)]
  rfl
theorem kw_opens (o w f : Int32) : f_X12_saysWord o w f 16258515 = sL w (f, o) [111, 112, 101, 110, 115] := by
  rw [says_wl (c := fun n => ([0, 0, 0, 15, 16, 5, 14, 19] : List Nat).getD n 0) (by decide +kernel)]
  rfl
theorem kw_fault (o w f : Int32) : f_X12_saysWord o w f 6346132 = sL w (f, o) [102, 97, 117, 108, 116] := by
  rw [says_wl (c := fun n => ([0, 0, 0, 6, 1, 21, 12, 20] : List Nat).getD n 0) (by decide +kernel)]
  rfl
theorem kw_closed (o w f : Int32) : f_X12_saysWord o w f 113757348 = sL w (f, o) [99, 108, 111, 115, 101, 100] := by
  rw [says_wl (c := fun n => ([0, 0, 3, 12, 15, 19, 5, 4] : List Nat).getD n 0) (by decide +kernel)]
  rfl
theorem kw_turns (o w f : Int32) : f_X12_saysWord o w f 21678547 = sL w (f, o) [116, 117, 114, 110, 115] := by
  rw [says_wl (c := fun n => ([0, 0, 0, 20, 21, 18, 14, 19] : List Nat).getD n 0) (by decide +kernel)]
  rfl
theorem kw_season (o w f : Int32) : f_X12_saysWord o w f 642829806 = sL w (f, o) [115, 101, 97, 115, 111, 110] := by
  rw [says_wl (c := fun n => ([0, 0, 19, 5, 1, 19, 15, 14] : List Nat).getD n 0) (by decide +kernel)]
  rfl
theorem kw_shares (o w f : Int32) : f_X12_saysWord o w f 645974195 = sL w (f, o) [115, 104, 97, 114, 101, 115] := by
  rw [says_wl (c := fun n => ([0, 0, 19, 8, 1, 18, 5, 19] : List Nat).getD n 0) (by decide +kernel)]
  rfl
theorem kw_less (o w f : Int32) : f_X12_saysWord o w f 398963 = sL w (f, o) [108, 101, 115, 115] := by
  rw [says_wl (c := fun n => ([0, 0, 0, 0, 12, 5, 19, 19] : List Nat).getD n 0) (by decide +kernel)]
  rfl
theorem kw_least (o w f : Int32) : f_X12_saysWord o w f 12748404 = sL w (f, o) [108, 101, 97, 115, 116] := by
  rw [says_wl (c := fun n => ([0, 0, 0, 12, 5, 1, 19, 20] : List Nat).getD n 0) (by decide +kernel)]
  rfl
theorem kw_carry (o w f : Int32) : f_X12_saysWord o w f 3197529 = sL w (f, o) [99, 97, 114, 114, 121] := by
  rw [says_wl (c := fun n => ([0, 0, 0, 3, 1, 18, 18, 25] : List Nat).getD n 0) (by decide +kernel)]
  rfl
theorem kw_appeal (o w f : Int32) : f_X12_saysWord o w f 50861100 = sL w (f, o) [97, 112, 112, 101, 97, 108] := by
  rw [says_wl (c := fun n => ([0, 0, 1, 16, 16, 5, 1, 12] : List Nat).getD n 0) (by decide +kernel)]
  rfl
theorem kw_recounts (o w f : Int32) : f_X12_saysWord o w f 623961094803 = sL w (f, o) [114, 101, 99, 111, 117, 110, 116, 115] := by
  rw [says_wl (c := fun n => ([18, 5, 3, 15, 21, 14, 20, 19] : List Nat).getD n 0) (by decide +kernel)]
  rfl
theorem kw_boat (o w f : Int32) : f_X12_saysWord o w f 80948 = sL w (f, o) [98, 111, 97, 116] := by
  rw [says_wl (c := fun n => ([0, 0, 0, 0, 2, 15, 1, 20] : List Nat).getD n 0) (by decide +kernel)]
  rfl
theorem kw_person (o w f : Int32) : f_X12_saysWord o w f 542723566 = sL w (f, o) [112, 101, 114, 115, 111, 110] := by
  rw [says_wl (c := fun n => ([0, 0, 16, 5, 18, 19, 15, 14] : List Nat).getD n 0) (by decide +kernel)]
  rfl
theorem kw_of (o w f : Int32) : f_X12_saysWord o w f 486 = sL w (f, o) [111, 102] := by
  rw [says_wl (c := fun n => ([0, 0, 0, 0, 0, 0, 15, 6] : List Nat).getD n 0) (by decide +kernel)]
  rfl
theorem kw_with (o w f : Int32) : f_X12_saysWord o w f 763528 = sL w (f, o) [119, 105, 116, 104] := by
  rw [says_wl (c := fun n => ([0, 0, 0, 0, 23, 9, 20, 8] : List Nat).getD n 0) (by decide +kernel)]
  rfl
theorem at_0 (s : (Nat → Int32) × Int32) : f_X1_addText 2048 s.1 s.2 0 = aL s [115, 101, 97, 115, 111, 110] := add_text (L := [115, 101, 97, 115, 111, 110]) rfl (by decide +kernel) s
theorem at_1 (s : (Nat → Int32) × Int32) : f_X1_addText 2048 s.1 s.2 1 = aL s [115, 104, 97, 114, 101, 115] := add_text (L := [115, 104, 97, 114, 101, 115]) rfl (by decide +kernel) s
theorem at_2 (s : (Nat → Int32) × Int32) : f_X1_addText 2048 s.1 s.2 2 = aL s [108, 101, 115, 115] := add_text (L := [108, 101, 115, 115]) rfl (by decide +kernel) s
theorem at_3 (s : (Nat → Int32) × Int32) : f_X1_addText 2048 s.1 s.2 3 = aL s [108, 101, 97, 115, 116] := add_text (L := [108, 101, 97, 115, 116]) rfl (by decide +kernel) s
theorem at_4 (s : (Nat → Int32) × Int32) : f_X1_addText 2048 s.1 s.2 4 = aL s [99, 97, 114, 114, 121] := add_text (L := [99, 97, 114, 114, 121]) rfl (by decide +kernel) s
theorem at_5 (s : (Nat → Int32) × Int32) : f_X1_addText 2048 s.1 s.2 5 = aL s [97, 112, 112, 101, 97, 108] := add_text (L := [97, 112, 112, 101, 97, 108]) rfl (by decide +kernel) s
theorem at_6 (s : (Nat → Int32) × Int32) : f_X1_addText 2048 s.1 s.2 6 = aL s [114, 101, 99, 111, 117, 110, 116, 115] := add_text (L := [114, 101, 99, 111, 117, 110, 116, 115]) rfl (by decide +kernel) s
theorem at_7 (s : (Nat → Int32) × Int32) : f_X1_addText 2048 s.1 s.2 7 = aL s [98, 111, 97, 116] := add_text (L := [98, 111, 97, 116]) rfl (by decide +kernel) s
theorem at_8 (s : (Nat → Int32) × Int32) : f_X1_addText 2048 s.1 s.2 8 = aL s [112, 101, 114, 115, 111, 110] := add_text (L := [112, 101, 114, 115, 111, 110]) rfl (by decide +kernel) s
theorem at_9 (s : (Nat → Int32) × Int32) : f_X1_addText 2048 s.1 s.2 9 = aL s [111, 102] := add_text (L := [111, 102]) rfl (by decide +kernel) s
theorem at_10 (s : (Nat → Int32) × Int32) : f_X1_addText 2048 s.1 s.2 10 = aL s [104, 97, 110, 100] := add_text (L := [104, 97, 110, 100]) rfl (by decide +kernel) s
theorem at_11 (s : (Nat → Int32) × Int32) : f_X1_addText 2048 s.1 s.2 11 = aL s [119, 105, 116, 104] := add_text (L := [119, 105, 116, 104]) rfl (by decide +kernel) s
theorem at_12 (s : (Nat → Int32) × Int32) : f_X1_addText 2048 s.1 s.2 12 = aL s [108, 97, 105, 100] := add_text (L := [108, 97, 105, 100]) rfl (by decide +kernel) s
theorem at_13 (s : (Nat → Int32) × Int32) : f_X1_addText 2048 s.1 s.2 13 = aL s [115, 116, 114, 117, 99, 107] := add_text (L := [115, 116, 114, 117, 99, 107]) rfl (by decide +kernel) s
theorem at_14 (s : (Nat → Int32) × Int32) : f_X1_addText 2048 s.1 s.2 14 = aL s [32, 42] := add_text (L := [32, 42]) rfl (by decide +kernel) s
theorem at_15 (s : (Nat → Int32) × Int32) : f_X1_addText 2048 s.1 s.2 15 = aL s [115, 97, 105, 108, 115] := add_text (L := [115, 97, 105, 108, 115]) rfl (by decide +kernel) s
theorem at_16 (s : (Nat → Int32) × Int32) : f_X1_addText 2048 s.1 s.2 16 = aL s [104, 111, 109, 101] := add_text (L := [104, 111, 109, 101]) rfl (by decide +kernel) s
theorem at_17 (s : (Nat → Int32) × Int32) : f_X1_addText 2048 s.1 s.2 17 = aL s [111, 112, 101, 110, 115] := add_text (L := [111, 112, 101, 110, 115]) rfl (by decide +kernel) s
theorem at_18 (s : (Nat → Int32) × Int32) : f_X1_addText 2048 s.1 s.2 18 = aL s [102, 97, 117, 108, 116] := add_text (L := [102, 97, 117, 108, 116]) rfl (by decide +kernel) s
theorem at_19 (s : (Nat → Int32) × Int32) : f_X1_addText 2048 s.1 s.2 19 = aL s [99, 108, 111, 115, 101, 100] := add_text (L := [99, 108, 111, 115, 101, 100]) rfl (by decide +kernel) s
theorem at_20 (s : (Nat → Int32) × Int32) : f_X1_addText 2048 s.1 s.2 20 = aL s [116, 117, 114, 110, 115] := add_text (L := [116, 117, 114, 110, 115]) rfl (by decide +kernel) s
theorem at_21 (s : (Nat → Int32) × Int32) : f_X1_addText 2048 s.1 s.2 21 = aL s [32, 115, 104, 97, 114, 101, 115] := add_text (L := [32, 115, 104, 97, 114, 101, 115]) rfl (by decide +kernel) s
theorem at_22 (s : (Nat → Int32) × Int32) : f_X1_addText 2048 s.1 s.2 22 = aL s [32, 108, 101, 115, 115] := add_text (L := [32, 108, 101, 115, 115]) rfl (by decide +kernel) s
theorem at_23 (s : (Nat → Int32) × Int32) : f_X1_addText 2048 s.1 s.2 23 = aL s [32, 108, 101, 97, 115, 116] := add_text (L := [32, 108, 101, 97, 115, 116]) rfl (by decide +kernel) s
theorem at_24 (s : (Nat → Int32) × Int32) : f_X1_addText 2048 s.1 s.2 24 = aL s [32, 99, 97, 114, 114, 121] := add_text (L := [32, 99, 97, 114, 114, 121]) rfl (by decide +kernel) s
theorem at_25 (s : (Nat → Int32) × Int32) : f_X1_addText 2048 s.1 s.2 25 = aL s [32, 97, 112, 112, 101, 97, 108] := add_text (L := [32, 97, 112, 112, 101, 97, 108]) rfl (by decide +kernel) s
theorem at_26 (s : (Nat → Int32) × Int32) : f_X1_addText 2048 s.1 s.2 26 = aL s [32, 114, 101, 99, 111, 117, 110, 116, 115] := add_text (L := [32, 114, 101, 99, 111, 117, 110, 116, 115]) rfl (by decide +kernel) s
theorem at_27 (s : (Nat → Int32) × Int32) : f_X1_addText 2048 s.1 s.2 27 = aL s [98, 111, 97, 116, 32] := add_text (L := [98, 111, 97, 116, 32]) rfl (by decide +kernel) s
theorem at_28 (s : (Nat → Int32) × Int32) : f_X1_addText 2048 s.1 s.2 28 = aL s [112, 101, 114, 115, 111, 110, 32] := add_text (L := [112, 101, 114, 115, 111, 110, 32]) rfl (by decide +kernel) s
theorem at_29 (s : (Nat → Int32) × Int32) : f_X1_addText 2048 s.1 s.2 29 = aL s [32, 111, 102, 32] := add_text (L := [32, 111, 102, 32]) rfl (by decide +kernel) s
def kwL (x : Int32) : List Nat := if x = 0 then [115, 97, 105, 108, 115] else if x = 1 then [104, 111, 109, 101] else if x = 2 then [111, 112, 101, 110, 115] else if x = 3 then [108, 97, 105, 100] else if x = 4 then [115, 116, 114, 117, 99, 107] else if x = 5 then [102, 97, 117, 108, 116] else if x = 6 then [99, 108, 111, 115, 101, 100] else [116, 117, 114, 110, 115]
def plL (x : Int32) : List Nat := if x = 0 then [104, 97, 110, 100] else if x = 1 then [119, 105, 116, 104] else if x = 2 then [108, 97, 105, 100] else [115, 116, 114, 117, 99, 107]
theorem add_kind (x : Int32) (s : (Nat → Int32) × Int32) : f_X1_addText 2048 s.1 s.2 (f_X6_kindWord x) = aL s (kwL x) := by
  unfold f_X6_kindWord kwL
  by_cases c0 : x = 0
  · rw [if_pos c0, if_pos c0]
    exact at_15 s
  rw [if_neg c0, if_neg c0]
  by_cases c1 : x = 1
  · rw [if_pos c1, if_pos c1]
    exact at_16 s
  rw [if_neg c1, if_neg c1]
  by_cases c2 : x = 2
  · rw [if_pos c2, if_pos c2]
    exact at_17 s
  rw [if_neg c2, if_neg c2]
  by_cases c3 : x = 3
  · rw [if_pos c3, if_pos c3]
    exact at_12 s
  rw [if_neg c3, if_neg c3]
  by_cases c4 : x = 4
  · rw [if_pos c4, if_pos c4]
    exact at_13 s
  rw [if_neg c4, if_neg c4]
  by_cases c5 : x = 5
  · rw [if_pos c5, if_pos c5]
    exact at_18 s
  rw [if_neg c5, if_neg c5]
  by_cases c6 : x = 6
  · rw [if_pos c6, if_pos c6]
    exact at_19 s
  rw [if_neg c6, if_neg c6]
  exact at_20 s
theorem says_kind (x o w f : Int32) : f_X12_saysWord o w f (f_X12_wordOfLog x) = sL w (f, o) (kwL x) := by
  unfold f_X12_wordOfLog kwL
  by_cases c0 : x = 0
  · rw [if_pos c0, if_pos c0]
    exact kw_sails o w f
  rw [if_neg c0, if_neg c0]
  by_cases c1 : x = 1
  · rw [if_pos c1, if_pos c1]
    exact kw_home o w f
  rw [if_neg c1, if_neg c1]
  by_cases c2 : x = 2
  · rw [if_pos c2, if_pos c2]
    exact kw_opens o w f
  rw [if_neg c2, if_neg c2]
  by_cases c3 : x = 3
  · rw [if_pos c3, if_pos c3]
    exact kw_laid o w f
  rw [if_neg c3, if_neg c3]
  by_cases c4 : x = 4
  · rw [if_pos c4, if_pos c4]
    exact kw_struck o w f
  rw [if_neg c4, if_neg c4]
  by_cases c5 : x = 5
  · rw [if_pos c5, if_pos c5]
    exact kw_fault o w f
  rw [if_neg c5, if_neg c5]
  by_cases c6 : x = 6
  · rw [if_pos c6, if_pos c6]
    exact kw_closed o w f
  rw [if_neg c6, if_neg c6]
  exact kw_turns o w f
theorem add_place (x : Int32) (s : (Nat → Int32) × Int32) : f_X1_addText 2048 s.1 s.2 (f_X6_placeWord x) = aL s (plL x) := by
  unfold f_X6_placeWord plL
  by_cases c0 : x = 0
  · rw [if_pos c0, if_pos c0]
    exact at_10 s
  rw [if_neg c0, if_neg c0]
  by_cases c1 : x = 1
  · rw [if_pos c1, if_pos c1]
    exact at_11 s
  rw [if_neg c1, if_neg c1]
  by_cases c2 : x = 2
  · rw [if_pos c2, if_pos c2]
    exact at_12 s
  rw [if_neg c2, if_neg c2]
  exact at_13 s
theorem kwL_ok (x : Int32) : (kwL x).length ≤ 6 ∧ ∀ c, c ∈ kwL x → c < 128 := by
  unfold kwL
  repeat' split
  all_goals decide
theorem plL_ok (x : Int32) : (plL x).length ≤ 6 ∧ ∀ c, c ∈ plL x → c < 128 := by
  unfold plL
  repeat' split
  all_goals decide
/-! lines one behind another -/
def flat (g : Nat → List Nat) : Nat → List Nat
  | 0 => []
  | n + 1 => flat g n ++ g n
theorem flat_len {g : Nat → List Nat} {B : Nat} : ∀ {n : Nat}, (∀ k, k < n → (g k).length ≤ B) → (flat g n).length ≤ B * n
  | 0, _ => Nat.zero_le _
  | n + 1, h => by
    have h1 := flat_len (n := n) (fun k hk => h k (by omega))
    have h2 := h n (by omega)
    rw [flat, List.length_append, Nat.mul_succ]
    omega
theorem flat_in {g : Nat → List Nat} : ∀ {n : Nat}, (∀ k, k < n → ∀ c, c ∈ g k → c < 128) → ∀ c, c ∈ flat g n → c < 128
  | 0, _, c, hc => by simp [flat] at hc
  | n + 1, h, c, hc => by
    rw [flat] at hc
    rcases List.mem_append.mp hc with z | z
    · exact flat_in (fun k hk => h k (by omega)) c z
    · exact h n (by omega) c z
theorem iter_aL {G : Nat → (Nat → Int32) × Int32 → (Nat → Int32) × Int32} {g : Nat → List Nat} {s : (Nat → Int32) × Int32} {N : Nat} (h : ∀ n s, n < N → G n s = aL s (g n)) : ∀ n, n ≤ N → iter_ G s n = aL s (flat g n)
  | 0, _ => iter_z _ _
  | n + 1, hn => by
    rw [iter_s, iter_aL h n (by omega), h n _ (by omega), aL_app]
    rfl
theorem iter_sL {G : Nat → Int32 × Int32 → Int32 × Int32} {g : Nat → List Nat} {w : Int32} {s : Int32 × Int32} {N : Nat} (h : ∀ n s, n < N → G n s = sL w s (g n)) : ∀ n, n ≤ N → iter_ G s n = sL w s (flat g n)
  | 0, _ => iter_z _ _
  | n + 1, hn => by
    rw [iter_s, iter_sL h n (by omega), h n _ (by omega), sL_app]
    rfl
theorem wnum {v : Int32} (hv : lgOk v) (s : (Nat → Int32) × Int32) : f_X6_writeNumber s.1 s.2 v = aL s (32 :: numL v) := by
  unfold f_X6_writeNumber S_X6_writeNumber_14 S_X6_writeNumber_6
  rw [show f_X1_add 2048 s.1 s.2 32 = aL s [32] from aL_1 s 32, add_num hv, aL_app]
  rfl
theorem snum {v : Int32} (hv : lgOk v) (w : Int32) (s : Int32 × Int32) : f_X12_saysNumber s.2 w s.1 v = sL w s (numL v) := says_num hv s.2 w s.1
/-! the story -/
def stL (mW : Nat → Int32) (n : Nat) : List Nat := numL (mW (279 + 4 * n)) ++ (32 :: (kwL (mW (279 + 4 * n + 1)) ++ (32 :: (numL (mW (279 + 4 * n + 2)) ++ (32 :: (numL (mW (279 + 4 * n + 3)) ++ [10]))))))
theorem stL_len (mW : Nat → Int32) (n : Nat) : (stL mW n).length ≤ 43 := by
  have h1 := numL_len (mW (279 + 4 * n))
  have h2 := (kwL_ok (mW (279 + 4 * n + 1))).1
  have h3 := numL_len (mW (279 + 4 * n + 2))
  have h4 := numL_len (mW (279 + 4 * n + 3))
  unfold stL
  simp only [List.length_append, List.length_cons, List.length_nil]
  omega
theorem stL_in (mW : Nat → Int32) (n : Nat) : ∀ c, c ∈ stL mW n → c < 128 := fun c hc => by
  unfold stL at hc
  simp only [List.mem_append, List.mem_cons, List.not_mem_nil, or_false] at hc
  rcases hc with z | z | z | z | z | z | z | z
  · exact numL_in _ c z
  · omega
  · exact (kwL_ok _).2 c z
  · omega
  · exact numL_in _ c z
  · omega
  · exact numL_in _ c z
  · omega
section TX1
variable {N P B Q : Nat} {day votes isOpen baskets lays recs fneed clos pastN logN : Int32} {boatO seaO faultO daysO backB sailB plc car bnd bsk dyL rsn pastF logF mW : Nat → Int32}
variable {nums bNames pNames fBoats : Nat → Int32} {nB nP mPpl mBts : Int32} {mNum mNam mFst mBnm : Nat → Int32}
variable {tx : Nat → Int32} {txl i : Int32}
theorem log_part (h : RSt N P B Q day votes isOpen baskets lays recs fneed clos boatO seaO faultO daysO backB sailB plc car bnd bsk dyL rsn pastF pastN logF logN mW) (hN : N ≤ 600) {n c : Nat} (hn : nI n < mW 8) (hn2 : n < 30) (hc : c < 4) : f_X5_part 30 logF logN (f_X5_oldest 30 logN + nI n) (nI c) = mW (279 + 4 * n + c) ∧ lgOk (mW (279 + 4 * n + c)) := by
  obtain ⟨a, e1, e2, e3, e4⟩ := h.2.2.2.2.2.2
  have hmin := Nat.min_le_right a 30
  rw [e3] at hn
  have z : n < min a 30 := (nI_ltI (by omega) (by omega)).mp hn
  have hold : f_X5_oldest 30 logN + nI n = nI (a - min a 30 + n) := by
    unfold f_X5_oldest
    rw [e1]
    by_cases w : a < 30
    · rw [if_pos (pk_sneg (by omega) w), show a - min a 30 + n = 0 + n by omega]
      exact nI_add 0 n
    · rw [pk_sub (by omega), if_neg (nI_pos (by omega)), nI_add, show a - min a 30 = a - 30 by omega]
  obtain ⟨h1, h2⟩ := e4 n c z hc
  refine ⟨?_, h2⟩
  rw [hold, e1, part_N (by decide) (by decide) (by omega) (by omega) (by omega) (vp_in_nI hc (by decide)), nI_clamp (by omega)]
  exact h1.symm
theorem x_story (h : RSt N P B Q day votes isOpen baskets lays recs fneed clos boatO seaO faultO daysO backB sailB plc car bnd bsk dyL rsn pastF pastN logF logN mW) (hN : N ≤ 600) : f_X6_writeStory tx txl 30 logF logN = aL (tx, f_X1_cutTo txl 0) (flat (stL mW) (mW 8).toNatClampNeg) := by
  have hsz := eq_size h hN
  obtain ⟨m, hm8, hm⟩ := h.l.n
  have cm : (nI m).toNatClampNeg = m := nI_clamp (by omega)
  unfold f_X6_writeStory
  rw [hsz, hm8, cm]
  show L_X6_writeStory_10 tx txl 30 logF logN m = _
  refine iter_aL (N := m) (fun n s hn => ?_) m (Nat.le_refl _)
  have hlt : nI n < mW 8 := by
    rw [hm8]
    exact nI_lt hn (by omega)
  obtain ⟨p0, o0⟩ := log_part h hN (c := 0) hlt (by omega) (by decide)
  obtain ⟨p1, o1⟩ := log_part h hN (c := 1) hlt (by omega) (by decide)
  obtain ⟨p2, o2⟩ := log_part h hN (c := 2) hlt (by omega) (by decide)
  obtain ⟨p3, o3⟩ := log_part h hN (c := 3) hlt (by omega) (by decide)
  have q0 : f_X5_part 30 logF logN (f_X5_oldest 30 logN + nI n) 0 = mW (279 + 4 * n) := p0
  have q1 : f_X5_part 30 logF logN (f_X5_oldest 30 logN + nI n) 1 = mW (279 + 4 * n + 1) := p1
  have q2 : f_X5_part 30 logF logN (f_X5_oldest 30 logN + nI n) 2 = mW (279 + 4 * n + 2) := p2
  have q3 : f_X5_part 30 logF logN (f_X5_oldest 30 logN + nI n) 3 = mW (279 + 4 * n + 3) := p3
  unfold G_X6_writeStory_10 S_X6_writeStory_89 S_X6_writeStory_80 S_X6_writeStory_70 S_X6_writeStory_60 S_X6_writeStory_44 S_X6_writeStory_35
  rw [q0, q1, q2, q3, add_num (show lgOk (mW (279 + 4 * n)) from o0), show ∀ u : (Nat → Int32) × Int32, f_X1_add 2048 u.1 u.2 32 = aL u [32] from fun u => aL_1 u 32, add_kind, wnum o2, wnum o3, show ∀ u : (Nat → Int32) × Int32, f_X1_add 2048 u.1 u.2 10 = aL u [10] from fun u => aL_1 u 10, aL_app, aL_app, aL_app, aL_app, aL_app]
  show aL s _ = aL s _
  unfold stL
  refine congrArg (aL s) ?_
  simp only [List.append_assoc, List.cons_append, List.nil_append]
theorem m_story (h : RSt N P B Q day votes isOpen baskets lays recs fneed clos boatO seaO faultO daysO backB sailB plc car bnd bsk dyL rsn pastF pastN logF logN mW) : (f_X12_saysStory mW i).1 = (sL i (-2, 0) (flat (stL mW) (mW 8).toNatClampNeg)).1 ∧ (f_X12_saysStory mW i).2.1 = (sL i (-2, 0) (flat (stL mW) (mW 8).toNatClampNeg)).2 := by
  obtain ⟨m, hm8, hm⟩ := h.l.n
  have cm : (nI m).toNatClampNeg = m := nI_clamp (by omega)
  obtain ⟨a, -, -, e3, e4⟩ := h.2.2.2.2.2.2
  have key : L_X12_saysStory_7 mW i m = sL i (-2, 0) (flat (stL mW) m) := by
    refine iter_sL (N := m) (fun n s hn => ?_) m (Nat.le_refl _)
    have hz : n < min a 30 := by
      rw [e3] at hm8
      have := nI_inj6 (a := min a 30) (b := m) (by omega) (by omega) hm8
      omega
    have i0 : ((279 : Int32) + 4 * nI n).toNatClampNeg = 279 + 4 * n := by
      rw [show (279 : Int32) = nI 279 from rfl, show (4 : Int32) = nI 4 from rfl, pk_mul, nI_add, nI_clamp (by omega)]
    have i1 : ((279 : Int32) + 4 * nI n + 1).toNatClampNeg = 279 + 4 * n + 1 := by
      rw [show (279 : Int32) = nI 279 from rfl, show (4 : Int32) = nI 4 from rfl, pk_mul, nI_add, nI_1, nI_clamp (by omega)]
    have i2 : ((279 : Int32) + 4 * nI n + 2).toNatClampNeg = 279 + 4 * n + 2 := by
      rw [show (279 : Int32) = nI 279 from rfl, show (4 : Int32) = nI 4 from rfl, show (2 : Int32) = nI 2 from rfl, pk_mul, nI_add, nI_add, nI_clamp (by omega)]
    have i3 : ((279 : Int32) + 4 * nI n + 3).toNatClampNeg = 279 + 4 * n + 3 := by
      rw [show (279 : Int32) = nI 279 from rfl, show (4 : Int32) = nI 4 from rfl, show (3 : Int32) = nI 3 from rfl, pk_mul, nI_add, nI_add, nI_clamp (by omega)]
    unfold G_X12_saysStory_7 S_X12_saysStory_96 S_X12_saysStory_90 S_X12_saysStory_78 S_X12_saysStory_72 S_X12_saysStory_60 S_X12_saysStory_54 S_X12_saysStory_39 S_X12_saysStory_33
    rw [show (S_X12_saysStory_2 i).2.2 = i from rfl, i0, i1, i2, i3, snum (show lgOk (mW (279 + 4 * n)) from (e4 n 0 hz (by decide)).2), show ∀ u : Int32 × Int32, f_X12_says u.2 i u.1 32 = sL i u [32] from fun u => sL_1 i u 32]
    rw [show ∀ (x : Int32) (u : Int32 × Int32), f_X12_saysWord u.2 i u.1 (f_X12_wordOfLog x) = sL i u (kwL x) from fun x u => says_kind x u.2 i u.1, show ∀ u : Int32 × Int32, f_X12_says u.2 i u.1 32 = sL i u [32] from fun u => sL_1 i u 32, snum (e4 n 2 hz (by decide)).2, show ∀ u : Int32 × Int32, f_X12_says u.2 i u.1 32 = sL i u [32] from fun u => sL_1 i u 32, snum (e4 n 3 hz (by decide)).2, show ∀ u : Int32 × Int32, f_X12_says u.2 i u.1 10 = sL i u [10] from fun u => sL_1 i u 10]
    rw [sL_app, sL_app, sL_app, sL_app, sL_app, sL_app, sL_app]
    show sL i s _ = sL i s _
    unfold stL
    refine congrArg (sL i s) ?_
    simp only [List.append_assoc, List.cons_append, List.nil_append]
  unfold f_X12_saysStory
  rw [hm8, cm, key]
  exact ⟨rfl, rfl⟩
theorem story_ok (h : RSt N P B Q day votes isOpen baskets lays recs fneed clos boatO seaO faultO daysO backB sailB plc car bnd bsk dyL rsn pastF pastN logF logN mW) : (flat (stL mW) (mW 8).toNatClampNeg).length ≤ 2048 ∧ ∀ c, c ∈ flat (stL mW) (mW 8).toNatClampNeg → c < 128 := by
  obtain ⟨m, hm8, hm⟩ := h.l.n
  have cm : (nI m).toNatClampNeg = m := nI_clamp (by omega)
  rw [hm8, cm]
  have := flat_len (g := stL mW) (B := 43) (n := m) (fun k _ => stL_len mW k)
  exact ⟨by omega, flat_in (fun k _ => stL_in mW k)⟩
theorem aL_nn {L : List Nat} (h0 : ¬ txl < 0) (hl : L.length ≤ 2048) (hc : ∀ c, c ∈ L → c < 128) : ¬ (aL (tx, f_X1_cutTo txl 0) L).2 < 0 := by
  have e : f_X1_cutTo txl 0 = nI 0 := by
    unfold f_X1_cutTo
    rw [if_neg (by decide), if_neg h0]
    rfl
  rw [e, (aL_all tx L 0 (by omega) hc).1]
  exact nI_pos (by omega)
theorem eq_storyLength (h : RSt N P B Q day votes isOpen baskets lays recs fneed clos boatO seaO faultO daysO backB sailB plc car bnd bsk dyL rsn pastF pastN logF logN mW) (hN : N ≤ 600) (h0 : ¬ txl < 0) : (f_X11_storyLength logF logN tx txl).1 = (f_X12_storyLength mW).1 ∧ ¬ (f_X11_storyLength logF logN tx txl).2.2 < 0 := by
  obtain ⟨k1, k2⟩ := story_ok h
  unfold f_X11_storyLength S_X11_storyLength_11 f_X12_storyLength S_X12_storyLength_2
  rw [x_story h hN, (m_story h).2]
  exact ⟨txt_len h0 k1 k2, aL_nn h0 k1 k2⟩
theorem eq_storyByte (h : RSt N P B Q day votes isOpen baskets lays recs fneed clos boatO seaO faultO daysO backB sailB plc car bnd bsk dyL rsn pastF pastN logF logN mW) (hN : N ≤ 600) (h0 : ¬ txl < 0) (x : Int32) (mOuts mWant mFnd : Int32) : (f_X11_storyByte logF logN tx txl x).1 = (f_X12_storyByte mOuts mWant mFnd mW x).1 ∧ ¬ (f_X11_storyByte logF logN tx txl x).2.2 < 0 := by
  obtain ⟨k1, k2⟩ := story_ok h
  unfold f_X11_storyByte S_X11_storyByte_19 f_X12_storyByte S_X12_storyByte_8
  by_cases q : 0 ≤ x
  · simp only [if_pos q]
    rw [x_story h hN, (m_story h).1]
    exact ⟨txt_byte h0 q k1 k2, aL_nn h0 k1 k2⟩
  · simp only [if_neg q]
    exact ⟨trivial, h0⟩
end TX1
