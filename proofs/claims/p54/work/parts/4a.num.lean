/-! NUMBERS in decimal, the JDK's way -/
def mI (k : Nat) : Int32 := -(nI k)
theorem mI_toInt {k : Nat} (h : k ≤ 2 ^ 31) : (mI k).toInt = -(k : Int) := by
  rcases Nat.lt_or_ge k (2 ^ 31) with h1 | h1
  · show (-(nI k)).toInt = _
    rw [Int32.toInt_neg, nI_toInt h1]
    exact Int.bmod_eq_of_le (by omega) (by omega)
  · have e : k = 2 ^ 31 := by omega
    subst e
    decide
def sI (neg : Bool) (k : Nat) : Int32 := bif neg then mI k else nI k
def sz (k : Nat) : Nat := if k < 10 then 1 else if k < 100 then 2 else if k < 1000 then 3 else if k < 10000 then 4 else if k < 100000 then 5 else if k < 1000000 then 6 else if k < 10000000 then 7 else if k < 100000000 then 8 else if k < 1000000000 then 9 else 10
theorem sz_pos (k : Nat) : 1 ≤ sz k := by unfold sz; repeat' split
                                          all_goals omega
theorem sz_le (k : Nat) : sz k ≤ 10 := by unfold sz; repeat' split
                                          all_goals omega
theorem sz_big {k : Nat} (h : 100 ≤ k) (h2 : k ≤ 2 ^ 31) : sz k = sz (k / 100) + 2 := by
  unfold sz
  repeat' split
  all_goals omega
theorem sz_1 {k : Nat} (h : k < 10) : sz k = 1 := by unfold sz; exact if_pos h
theorem sz_2 {k : Nat} (h : 10 ≤ k) (h2 : k < 100) : sz k = 2 := by unfold sz; rw [if_neg (by omega), if_pos h2]
def dig (k u : Nat) : Int32 := nI (48 + k / 10 ^ u % 10)
theorem mI_le {a b : Nat} (ha : a ≤ 2 ^ 31) (hb : b ≤ 2 ^ 31) : mI a ≤ mI b ↔ b ≤ a := by
  rw [Int32.le_iff_toInt_le, mI_toInt ha, mI_toInt hb]
  omega
theorem mI_div {k : Nat} (h : k ≤ 2 ^ 31) : mI k / 100 = mI (k / 100) := by
  refine Int32.toInt_inj.mp ?_
  rw [Int32.toInt_div, mI_toInt h, mI_toInt (by omega), show (100 : Int32).toInt = 100 by decide, Int.neg_tdiv]
  rw [show ((k : Int).tdiv 100) = ((k / 100 : Nat) : Int) from rfl]
  exact Int.bmod_eq_of_le (by omega) (by omega)
theorem mI_rem {k : Nat} (h : k ≤ 2 ^ 31) : mI (k / 100) * 100 - mI k = nI (k % 100) := by
  have h1 : (mI (k / 100) * 100).toInt = -((k / 100 : Nat) : Int) * 100 := by
    rw [Int32.toInt_mul, mI_toInt (by omega), show (100 : Int32).toInt = 100 by decide]
    exact Int.bmod_eq_of_le (by omega) (by omega)
  refine Int32.toInt_inj.mp ?_
  rw [nI_toInt (by omega), Int32.toInt_sub, h1, mI_toInt h]
  have h2 : -((k / 100 : Nat) : Int) * 100 - -(k : Int) = ((k % 100 : Nat) : Int) := by omega
  rw [h2]
  exact Int.bmod_eq_of_le (by omega) (by omega)
theorem mI_neg {k : Nat} : -(mI k) = nI k := Int32.neg_neg
theorem nI_dec {a : Nat} (h : 1 ≤ a) : nI a + Int32.ofInt (-1) = nI (a - 1) := by
  obtain ⟨k, rfl⟩ : ∃ k, a = k + 1 := ⟨a - 1, by omega⟩
  rw [Nat.add_sub_cancel, ← nI_one, Int32.add_assoc, show (1 : Int32) + Int32.ofInt (-1) = 0 by decide, Int32.add_zero]
/-- the tables of digits -/
def DGf (A : Nat → Prop) (U : State) (H : Heap) : Prop := ∃ t1 t2 : Nat, va_Z "java/lang/Integer" "DigitOnes" "[B" (.ref t1) A U H ∧ va_T .byte t1 100 (fun j => .int (nI (48 + j % 10))) A U H ∧ va_Z "java/lang/Integer" "DigitTens" "[B" (.ref t2) A U H ∧ va_T .byte t2 100 (fun j => .int (nI (48 + j / 10))) A U H
theorem DGf.kept {A : Nat → Prop} {U : State} {H H1 : Heap} (h : DGf A U H) (hq : ∀ a : Nat, a < H.size → ¬ A a → H1[a]? = H[a]?) : DGf A U H1 := by
  obtain ⟨t1, t2, h1, h2, h3, h4⟩ := h
  exact ⟨t1, t2, h1.kept hq, h2.kept hq, h3.kept hq, h4.kept hq⟩
theorem DGf.narrow {A B : Nat → Prop} {U : State} {H : Heap} (h : DGf A U H) (hAB : ∀ q, B q → A q) : DGf B U H := by
  obtain ⟨t1, t2, h1, h2, h3, h4⟩ := h
  exact ⟨t1, t2, h1.narrow hAB, h2.narrow hAB, h3.narrow hAB, h4.narrow hAB⟩
theorem DGf.grow {A : Nat → Prop} {U : State} {H : Heap} (h : DGf A U H) : DGf (Gr A H.size) U H := by
  obtain ⟨t1, t2, h1, h2, h3, h4⟩ := h
  exact ⟨t1, t2, h1.grow, h2.grow, h3.grow, h4.grow⟩
theorem stX_dg {A : Nat → Prop} : stX (fun U H => DGf A U H) := by
  intro u U H hv h
  obtain ⟨t1, t2, h1, h2, h3, h4⟩ := h
  exact ⟨t1, t2, va_Z.moved hv h1, va_T.moved hv h2, va_Z.moved hv h3, va_T.moved hv h4⟩
set_option maxHeartbeats 4000000 in
set_option maxRecDepth 100000 in
theorem x_J6_stringSize_0f7a4 (l : Launch) (D : va_G) (A : Nat → Prop) (w : va_W) (neg : Bool) (k : Nat) (hk : k ≤ 2 ^ 31) (hn : neg = false → k < 2 ^ 31) (hp : neg = true → 0 < k) : Met l yJ6_stringSize_0f7a4 (ws_ yJ6_stringSize_0f7a4 cJ6_stringSize_0f7a4 4 (Option.some Jvm.ClassFile.FieldType.int)) ({ frames := 0, cells := 0, slots := 0, locals := 0 } : Room) (gPx D A [.int (sI neg k)] w (fun _ _ => True)) (gR (some (.int (nI (sz k + (bif neg then 1 else 0)))))) 0 0 A := by
  cases neg
  · show Met l yJ6_stringSize_0f7a4 (ws_ yJ6_stringSize_0f7a4 cJ6_stringSize_0f7a4 4 (Option.some Jvm.ClassFile.FieldType.int)) ({ frames := 0, cells := 0, slots := 0, locals := 0 } : Room) (gPx D A [.int (nI k)] w (fun _ _ => True)) (gR (some (.int (nI (sz k + 0))))) 0 0 A
    refine g_metX [(0, .int (nI k))] (by decide +kernel) (Nat.le_of_ble_eq_true rfl) rfl (fun pg en s mi ar below me co ls S hK hP hD hE hS hx hr hlk hnm hl => ?_)
    refine lv_iconst (v := 1) S.1 S.2.1 dJ6_stringSize_0f7a4_0 (by decide) ?_
    refine lv_istore_n (lv' := [(1, .int 1), (0, .int (nI k))]) S.1 S.2.1 dJ6_stringSize_0f7a4_1 rfl hl (by decide) rfl (fun ls hl => ?_)
    refine lv_iload_n S.1 S.2.1 dJ6_stringSize_0f7a4_2 rfl (lv_at hl 1 rfl) ?_
    refine lv_if_lt (tgt := 11) S.1 S.2.1 dJ6_stringSize_0f7a4_3 (by decide) (fun z9 => absurd z9 (nI_pos (hn rfl))) (fun _ => ?_)
    refine lv_iconst (v := 0) S.1 S.2.1 dJ6_stringSize_0f7a4_6 (by decide) ?_
    refine lv_istore_n (lv' := [(1, .int 0), (0, .int (nI k))]) S.1 S.2.1 dJ6_stringSize_0f7a4_7 rfl hl (by decide) rfl (fun ls hl => ?_)
    refine lv_iload_n S.1 S.2.1 dJ6_stringSize_0f7a4_8 rfl (lv_at hl 1 rfl) ?_
    refine lv_ineg S.1 S.2.1 dJ6_stringSize_0f7a4_9 ?_
    refine lv_istore_n (lv' := [(0, .int (-(nI k))), (1, .int 0)]) S.1 S.2.1 dJ6_stringSize_0f7a4_10 rfl hl (by decide) rfl (fun ls hl => ?_)
    have hl : lv_has ls 4 [(0, .int (mI k)), (1, .int 0)] := hl
    refine lv_bipush (v := (-10)) S.1 S.2.1 dJ6_stringSize_0f7a4_11 (by decide) ?_
    refine lv_istore_n (lv' := [(2, .int (-10)), (0, .int (mI k)), (1, .int 0)]) S.1 S.2.1 dJ6_stringSize_0f7a4_13 rfl hl (by decide) rfl (fun ls hl => ?_)
    refine lv_iconst (v := 1) S.1 S.2.1 dJ6_stringSize_0f7a4_14 (by decide) ?_
    refine lv_istore_n (lv' := [(3, .int 1), (2, .int (-10)), (0, .int (mI k)), (1, .int 0)]) S.1 S.2.1 dJ6_stringSize_0f7a4_15 rfl hl (by decide) rfl (fun ls hl => ?_)
    refine lv_iload_n S.1 S.2.1 dJ6_stringSize_0f7a4_16 rfl (lv_at hl 0 rfl) ?_
    refine lv_bipush (v := 10) S.1 S.2.1 dJ6_stringSize_0f7a4_17 (by decide) ?_
    refine lv_icmp_ge (tgt := 42) S.1 S.2.1 dJ6_stringSize_0f7a4_19 (by decide) (fun z9 => absurd z9 (by decide)) (fun _ => ?_)
    refine lv_iload_n S.1 S.2.1 dJ6_stringSize_0f7a4_22 rfl (lv_at hl 2 rfl) ?_
    refine lv_iload_n S.1 S.2.1 dJ6_stringSize_0f7a4_23 rfl (lv_at hl 1 rfl) ?_
    refine lv_icmp_le (tgt := 31) S.1 S.2.1 dJ6_stringSize_0f7a4_24 (by decide) (fun c1 => ?_) (fun c1 => ?_)
    · have k1 : 10 ≤ k := (mI_le hk (b := 10) (by decide)).mp c1
      refine lv_bipush (v := 10) S.1 S.2.1 dJ6_stringSize_0f7a4_31 (by decide) ?_
      refine lv_iload_n S.1 S.2.1 dJ6_stringSize_0f7a4_33 rfl (lv_at hl 1 rfl) ?_
      refine lv_imul S.1 S.2.1 dJ6_stringSize_0f7a4_34 ?_
      rw [show (((10 : Int32) : Int32) * (-10)) = (-100) from by decide]
      refine lv_istore_n (lv' := [(2, .int (-100)), (3, .int 1), (0, .int (mI k)), (1, .int 0)]) S.1 S.2.1 dJ6_stringSize_0f7a4_35 rfl hl (by decide) rfl (fun ls hl => ?_)
      refine lv_iinc (v := 2) (lv' := [(3, .int 2), (2, .int (-100)), (0, .int (mI k)), (1, .int 0)]) S.1 S.2.1 dJ6_stringSize_0f7a4_36 hl (k := 1) rfl (by decide) (by decide) rfl (fun ls hl => ?_)
      refine lv_goto (tgt := 16) S.1 S.2.1 dJ6_stringSize_0f7a4_39 (by decide) ?_
      refine lv_iload_n S.1 S.2.1 dJ6_stringSize_0f7a4_16 rfl (lv_at hl 0 rfl) ?_
      refine lv_bipush (v := 10) S.1 S.2.1 dJ6_stringSize_0f7a4_17 (by decide) ?_
      refine lv_icmp_ge (tgt := 42) S.1 S.2.1 dJ6_stringSize_0f7a4_19 (by decide) (fun z9 => absurd z9 (by decide)) (fun _ => ?_)
      refine lv_iload_n S.1 S.2.1 dJ6_stringSize_0f7a4_22 rfl (lv_at hl 2 rfl) ?_
      refine lv_iload_n S.1 S.2.1 dJ6_stringSize_0f7a4_23 rfl (lv_at hl 1 rfl) ?_
      refine lv_icmp_le (tgt := 31) S.1 S.2.1 dJ6_stringSize_0f7a4_24 (by decide) (fun c2 => ?_) (fun c2 => ?_)
      · have k2 : 100 ≤ k := (mI_le hk (b := 100) (by decide)).mp c2
        refine lv_bipush (v := 10) S.1 S.2.1 dJ6_stringSize_0f7a4_31 (by decide) ?_
        refine lv_iload_n S.1 S.2.1 dJ6_stringSize_0f7a4_33 rfl (lv_at hl 1 rfl) ?_
        refine lv_imul S.1 S.2.1 dJ6_stringSize_0f7a4_34 ?_
        rw [show (((10 : Int32) : Int32) * (-100)) = (-1000) from by decide]
        refine lv_istore_n (lv' := [(2, .int (-1000)), (3, .int 2), (0, .int (mI k)), (1, .int 0)]) S.1 S.2.1 dJ6_stringSize_0f7a4_35 rfl hl (by decide) rfl (fun ls hl => ?_)
        refine lv_iinc (v := 3) (lv' := [(3, .int 3), (2, .int (-1000)), (0, .int (mI k)), (1, .int 0)]) S.1 S.2.1 dJ6_stringSize_0f7a4_36 hl (k := 1) rfl (by decide) (by decide) rfl (fun ls hl => ?_)
        refine lv_goto (tgt := 16) S.1 S.2.1 dJ6_stringSize_0f7a4_39 (by decide) ?_
        refine lv_iload_n S.1 S.2.1 dJ6_stringSize_0f7a4_16 rfl (lv_at hl 0 rfl) ?_
        refine lv_bipush (v := 10) S.1 S.2.1 dJ6_stringSize_0f7a4_17 (by decide) ?_
        refine lv_icmp_ge (tgt := 42) S.1 S.2.1 dJ6_stringSize_0f7a4_19 (by decide) (fun z9 => absurd z9 (by decide)) (fun _ => ?_)
        refine lv_iload_n S.1 S.2.1 dJ6_stringSize_0f7a4_22 rfl (lv_at hl 2 rfl) ?_
        refine lv_iload_n S.1 S.2.1 dJ6_stringSize_0f7a4_23 rfl (lv_at hl 1 rfl) ?_
        refine lv_icmp_le (tgt := 31) S.1 S.2.1 dJ6_stringSize_0f7a4_24 (by decide) (fun c3 => ?_) (fun c3 => ?_)
        · have k3 : 1000 ≤ k := (mI_le hk (b := 1000) (by decide)).mp c3
          refine lv_bipush (v := 10) S.1 S.2.1 dJ6_stringSize_0f7a4_31 (by decide) ?_
          refine lv_iload_n S.1 S.2.1 dJ6_stringSize_0f7a4_33 rfl (lv_at hl 1 rfl) ?_
          refine lv_imul S.1 S.2.1 dJ6_stringSize_0f7a4_34 ?_
          rw [show (((10 : Int32) : Int32) * (-1000)) = (-10000) from by decide]
          refine lv_istore_n (lv' := [(2, .int (-10000)), (3, .int 3), (0, .int (mI k)), (1, .int 0)]) S.1 S.2.1 dJ6_stringSize_0f7a4_35 rfl hl (by decide) rfl (fun ls hl => ?_)
          refine lv_iinc (v := 4) (lv' := [(3, .int 4), (2, .int (-10000)), (0, .int (mI k)), (1, .int 0)]) S.1 S.2.1 dJ6_stringSize_0f7a4_36 hl (k := 1) rfl (by decide) (by decide) rfl (fun ls hl => ?_)
          refine lv_goto (tgt := 16) S.1 S.2.1 dJ6_stringSize_0f7a4_39 (by decide) ?_
          refine lv_iload_n S.1 S.2.1 dJ6_stringSize_0f7a4_16 rfl (lv_at hl 0 rfl) ?_
          refine lv_bipush (v := 10) S.1 S.2.1 dJ6_stringSize_0f7a4_17 (by decide) ?_
          refine lv_icmp_ge (tgt := 42) S.1 S.2.1 dJ6_stringSize_0f7a4_19 (by decide) (fun z9 => absurd z9 (by decide)) (fun _ => ?_)
          refine lv_iload_n S.1 S.2.1 dJ6_stringSize_0f7a4_22 rfl (lv_at hl 2 rfl) ?_
          refine lv_iload_n S.1 S.2.1 dJ6_stringSize_0f7a4_23 rfl (lv_at hl 1 rfl) ?_
          refine lv_icmp_le (tgt := 31) S.1 S.2.1 dJ6_stringSize_0f7a4_24 (by decide) (fun c4 => ?_) (fun c4 => ?_)
          · have k4 : 10000 ≤ k := (mI_le hk (b := 10000) (by decide)).mp c4
            refine lv_bipush (v := 10) S.1 S.2.1 dJ6_stringSize_0f7a4_31 (by decide) ?_
            refine lv_iload_n S.1 S.2.1 dJ6_stringSize_0f7a4_33 rfl (lv_at hl 1 rfl) ?_
            refine lv_imul S.1 S.2.1 dJ6_stringSize_0f7a4_34 ?_
            rw [show (((10 : Int32) : Int32) * (-10000)) = (-100000) from by decide]
            refine lv_istore_n (lv' := [(2, .int (-100000)), (3, .int 4), (0, .int (mI k)), (1, .int 0)]) S.1 S.2.1 dJ6_stringSize_0f7a4_35 rfl hl (by decide) rfl (fun ls hl => ?_)
            refine lv_iinc (v := 5) (lv' := [(3, .int 5), (2, .int (-100000)), (0, .int (mI k)), (1, .int 0)]) S.1 S.2.1 dJ6_stringSize_0f7a4_36 hl (k := 1) rfl (by decide) (by decide) rfl (fun ls hl => ?_)
            refine lv_goto (tgt := 16) S.1 S.2.1 dJ6_stringSize_0f7a4_39 (by decide) ?_
            refine lv_iload_n S.1 S.2.1 dJ6_stringSize_0f7a4_16 rfl (lv_at hl 0 rfl) ?_
            refine lv_bipush (v := 10) S.1 S.2.1 dJ6_stringSize_0f7a4_17 (by decide) ?_
            refine lv_icmp_ge (tgt := 42) S.1 S.2.1 dJ6_stringSize_0f7a4_19 (by decide) (fun z9 => absurd z9 (by decide)) (fun _ => ?_)
            refine lv_iload_n S.1 S.2.1 dJ6_stringSize_0f7a4_22 rfl (lv_at hl 2 rfl) ?_
            refine lv_iload_n S.1 S.2.1 dJ6_stringSize_0f7a4_23 rfl (lv_at hl 1 rfl) ?_
            refine lv_icmp_le (tgt := 31) S.1 S.2.1 dJ6_stringSize_0f7a4_24 (by decide) (fun c5 => ?_) (fun c5 => ?_)
            · have k5 : 100000 ≤ k := (mI_le hk (b := 100000) (by decide)).mp c5
              refine lv_bipush (v := 10) S.1 S.2.1 dJ6_stringSize_0f7a4_31 (by decide) ?_
              refine lv_iload_n S.1 S.2.1 dJ6_stringSize_0f7a4_33 rfl (lv_at hl 1 rfl) ?_
              refine lv_imul S.1 S.2.1 dJ6_stringSize_0f7a4_34 ?_
              rw [show (((10 : Int32) : Int32) * (-100000)) = (-1000000) from by decide]
              refine lv_istore_n (lv' := [(2, .int (-1000000)), (3, .int 5), (0, .int (mI k)), (1, .int 0)]) S.1 S.2.1 dJ6_stringSize_0f7a4_35 rfl hl (by decide) rfl (fun ls hl => ?_)
              refine lv_iinc (v := 6) (lv' := [(3, .int 6), (2, .int (-1000000)), (0, .int (mI k)), (1, .int 0)]) S.1 S.2.1 dJ6_stringSize_0f7a4_36 hl (k := 1) rfl (by decide) (by decide) rfl (fun ls hl => ?_)
              refine lv_goto (tgt := 16) S.1 S.2.1 dJ6_stringSize_0f7a4_39 (by decide) ?_
              refine lv_iload_n S.1 S.2.1 dJ6_stringSize_0f7a4_16 rfl (lv_at hl 0 rfl) ?_
              refine lv_bipush (v := 10) S.1 S.2.1 dJ6_stringSize_0f7a4_17 (by decide) ?_
              refine lv_icmp_ge (tgt := 42) S.1 S.2.1 dJ6_stringSize_0f7a4_19 (by decide) (fun z9 => absurd z9 (by decide)) (fun _ => ?_)
              refine lv_iload_n S.1 S.2.1 dJ6_stringSize_0f7a4_22 rfl (lv_at hl 2 rfl) ?_
              refine lv_iload_n S.1 S.2.1 dJ6_stringSize_0f7a4_23 rfl (lv_at hl 1 rfl) ?_
              refine lv_icmp_le (tgt := 31) S.1 S.2.1 dJ6_stringSize_0f7a4_24 (by decide) (fun c6 => ?_) (fun c6 => ?_)
              · have k6 : 1000000 ≤ k := (mI_le hk (b := 1000000) (by decide)).mp c6
                refine lv_bipush (v := 10) S.1 S.2.1 dJ6_stringSize_0f7a4_31 (by decide) ?_
                refine lv_iload_n S.1 S.2.1 dJ6_stringSize_0f7a4_33 rfl (lv_at hl 1 rfl) ?_
                refine lv_imul S.1 S.2.1 dJ6_stringSize_0f7a4_34 ?_
                rw [show (((10 : Int32) : Int32) * (-1000000)) = (-10000000) from by decide]
                refine lv_istore_n (lv' := [(2, .int (-10000000)), (3, .int 6), (0, .int (mI k)), (1, .int 0)]) S.1 S.2.1 dJ6_stringSize_0f7a4_35 rfl hl (by decide) rfl (fun ls hl => ?_)
                refine lv_iinc (v := 7) (lv' := [(3, .int 7), (2, .int (-10000000)), (0, .int (mI k)), (1, .int 0)]) S.1 S.2.1 dJ6_stringSize_0f7a4_36 hl (k := 1) rfl (by decide) (by decide) rfl (fun ls hl => ?_)
                refine lv_goto (tgt := 16) S.1 S.2.1 dJ6_stringSize_0f7a4_39 (by decide) ?_
                refine lv_iload_n S.1 S.2.1 dJ6_stringSize_0f7a4_16 rfl (lv_at hl 0 rfl) ?_
                refine lv_bipush (v := 10) S.1 S.2.1 dJ6_stringSize_0f7a4_17 (by decide) ?_
                refine lv_icmp_ge (tgt := 42) S.1 S.2.1 dJ6_stringSize_0f7a4_19 (by decide) (fun z9 => absurd z9 (by decide)) (fun _ => ?_)
                refine lv_iload_n S.1 S.2.1 dJ6_stringSize_0f7a4_22 rfl (lv_at hl 2 rfl) ?_
                refine lv_iload_n S.1 S.2.1 dJ6_stringSize_0f7a4_23 rfl (lv_at hl 1 rfl) ?_
                refine lv_icmp_le (tgt := 31) S.1 S.2.1 dJ6_stringSize_0f7a4_24 (by decide) (fun c7 => ?_) (fun c7 => ?_)
                · have k7 : 10000000 ≤ k := (mI_le hk (b := 10000000) (by decide)).mp c7
                  refine lv_bipush (v := 10) S.1 S.2.1 dJ6_stringSize_0f7a4_31 (by decide) ?_
                  refine lv_iload_n S.1 S.2.1 dJ6_stringSize_0f7a4_33 rfl (lv_at hl 1 rfl) ?_
                  refine lv_imul S.1 S.2.1 dJ6_stringSize_0f7a4_34 ?_
                  rw [show (((10 : Int32) : Int32) * (-10000000)) = (-100000000) from by decide]
                  refine lv_istore_n (lv' := [(2, .int (-100000000)), (3, .int 7), (0, .int (mI k)), (1, .int 0)]) S.1 S.2.1 dJ6_stringSize_0f7a4_35 rfl hl (by decide) rfl (fun ls hl => ?_)
                  refine lv_iinc (v := 8) (lv' := [(3, .int 8), (2, .int (-100000000)), (0, .int (mI k)), (1, .int 0)]) S.1 S.2.1 dJ6_stringSize_0f7a4_36 hl (k := 1) rfl (by decide) (by decide) rfl (fun ls hl => ?_)
                  refine lv_goto (tgt := 16) S.1 S.2.1 dJ6_stringSize_0f7a4_39 (by decide) ?_
                  refine lv_iload_n S.1 S.2.1 dJ6_stringSize_0f7a4_16 rfl (lv_at hl 0 rfl) ?_
                  refine lv_bipush (v := 10) S.1 S.2.1 dJ6_stringSize_0f7a4_17 (by decide) ?_
                  refine lv_icmp_ge (tgt := 42) S.1 S.2.1 dJ6_stringSize_0f7a4_19 (by decide) (fun z9 => absurd z9 (by decide)) (fun _ => ?_)
                  refine lv_iload_n S.1 S.2.1 dJ6_stringSize_0f7a4_22 rfl (lv_at hl 2 rfl) ?_
                  refine lv_iload_n S.1 S.2.1 dJ6_stringSize_0f7a4_23 rfl (lv_at hl 1 rfl) ?_
                  refine lv_icmp_le (tgt := 31) S.1 S.2.1 dJ6_stringSize_0f7a4_24 (by decide) (fun c8 => ?_) (fun c8 => ?_)
                  · have k8 : 100000000 ≤ k := (mI_le hk (b := 100000000) (by decide)).mp c8
                    refine lv_bipush (v := 10) S.1 S.2.1 dJ6_stringSize_0f7a4_31 (by decide) ?_
                    refine lv_iload_n S.1 S.2.1 dJ6_stringSize_0f7a4_33 rfl (lv_at hl 1 rfl) ?_
                    refine lv_imul S.1 S.2.1 dJ6_stringSize_0f7a4_34 ?_
                    rw [show (((10 : Int32) : Int32) * (-100000000)) = (-1000000000) from by decide]
                    refine lv_istore_n (lv' := [(2, .int (-1000000000)), (3, .int 8), (0, .int (mI k)), (1, .int 0)]) S.1 S.2.1 dJ6_stringSize_0f7a4_35 rfl hl (by decide) rfl (fun ls hl => ?_)
                    refine lv_iinc (v := 9) (lv' := [(3, .int 9), (2, .int (-1000000000)), (0, .int (mI k)), (1, .int 0)]) S.1 S.2.1 dJ6_stringSize_0f7a4_36 hl (k := 1) rfl (by decide) (by decide) rfl (fun ls hl => ?_)
                    refine lv_goto (tgt := 16) S.1 S.2.1 dJ6_stringSize_0f7a4_39 (by decide) ?_
                    refine lv_iload_n S.1 S.2.1 dJ6_stringSize_0f7a4_16 rfl (lv_at hl 0 rfl) ?_
                    refine lv_bipush (v := 10) S.1 S.2.1 dJ6_stringSize_0f7a4_17 (by decide) ?_
                    refine lv_icmp_ge (tgt := 42) S.1 S.2.1 dJ6_stringSize_0f7a4_19 (by decide) (fun z9 => absurd z9 (by decide)) (fun _ => ?_)
                    refine lv_iload_n S.1 S.2.1 dJ6_stringSize_0f7a4_22 rfl (lv_at hl 2 rfl) ?_
                    refine lv_iload_n S.1 S.2.1 dJ6_stringSize_0f7a4_23 rfl (lv_at hl 1 rfl) ?_
                    refine lv_icmp_le (tgt := 31) S.1 S.2.1 dJ6_stringSize_0f7a4_24 (by decide) (fun c9 => ?_) (fun c9 => ?_)
                    · have k9 : 1000000000 ≤ k := (mI_le hk (b := 1000000000) (by decide)).mp c9
                      refine lv_bipush (v := 10) S.1 S.2.1 dJ6_stringSize_0f7a4_31 (by decide) ?_
                      refine lv_iload_n S.1 S.2.1 dJ6_stringSize_0f7a4_33 rfl (lv_at hl 1 rfl) ?_
                      refine lv_imul S.1 S.2.1 dJ6_stringSize_0f7a4_34 ?_
                      rw [show (((10 : Int32) : Int32) * (-1000000000)) = (-1410065408) from by decide]
                      refine lv_istore_n (lv' := [(2, .int (-1410065408)), (3, .int 9), (0, .int (mI k)), (1, .int 0)]) S.1 S.2.1 dJ6_stringSize_0f7a4_35 rfl hl (by decide) rfl (fun ls hl => ?_)
                      refine lv_iinc (v := 10) (lv' := [(3, .int 10), (2, .int (-1410065408)), (0, .int (mI k)), (1, .int 0)]) S.1 S.2.1 dJ6_stringSize_0f7a4_36 hl (k := 1) rfl (by decide) (by decide) rfl (fun ls hl => ?_)
                      refine lv_goto (tgt := 16) S.1 S.2.1 dJ6_stringSize_0f7a4_39 (by decide) ?_
                      refine lv_iload_n S.1 S.2.1 dJ6_stringSize_0f7a4_16 rfl (lv_at hl 0 rfl) ?_
                      refine lv_bipush (v := 10) S.1 S.2.1 dJ6_stringSize_0f7a4_17 (by decide) ?_
                      refine lv_icmp_ge (tgt := 42) S.1 S.2.1 dJ6_stringSize_0f7a4_19 (by decide) (fun _ => ?_) (fun z9 => absurd (by decide) z9)
                      refine lv_bipush (v := 10) S.1 S.2.1 dJ6_stringSize_0f7a4_42 (by decide) ?_
                      refine lv_iload_n S.1 S.2.1 dJ6_stringSize_0f7a4_44 rfl (lv_at hl 3 rfl) ?_
                      refine lv_iadd S.1 S.2.1 dJ6_stringSize_0f7a4_45 ?_
                      exact g_iretR S hr hlk hS (congrArg (fun z => some (Value.int z)) ((show nI (sz k + 0) = 10 + 0 from by rw [show sz k = 10 from by unfold sz; rw [if_neg (by omega), if_neg (by omega), if_neg (by omega), if_neg (by omega), if_neg (by omega), if_neg (by omega), if_neg (by omega), if_neg (by omega), if_neg (by omega)]]; decide))) dJ6_stringSize_0f7a4_46
                    · have k9 : k < 1000000000 := by rcases Nat.lt_or_ge k 1000000000 with h | h; exact h; exact absurd ((mI_le hk (b := 1000000000) (by decide)).mpr h) c9
                      refine lv_iload_n S.1 S.2.1 dJ6_stringSize_0f7a4_27 rfl (lv_at hl 0 rfl) ?_
                      refine lv_iload_n S.1 S.2.1 dJ6_stringSize_0f7a4_28 rfl (lv_at hl 3 rfl) ?_
                      refine lv_iadd S.1 S.2.1 dJ6_stringSize_0f7a4_29 ?_
                      exact g_iretR S hr hlk hS (congrArg (fun z => some (Value.int z)) (show nI (sz k + 0) = 9 + 0 from by rw [show sz k = 9 from by unfold sz; rw [if_neg (by omega), if_neg (by omega), if_neg (by omega), if_neg (by omega), if_neg (by omega), if_neg (by omega), if_neg (by omega), if_neg (by omega), if_pos (by omega)]]; decide)) dJ6_stringSize_0f7a4_30
                  · have k8 : k < 100000000 := by rcases Nat.lt_or_ge k 100000000 with h | h; exact h; exact absurd ((mI_le hk (b := 100000000) (by decide)).mpr h) c8
                    refine lv_iload_n S.1 S.2.1 dJ6_stringSize_0f7a4_27 rfl (lv_at hl 0 rfl) ?_
                    refine lv_iload_n S.1 S.2.1 dJ6_stringSize_0f7a4_28 rfl (lv_at hl 3 rfl) ?_
                    refine lv_iadd S.1 S.2.1 dJ6_stringSize_0f7a4_29 ?_
                    exact g_iretR S hr hlk hS (congrArg (fun z => some (Value.int z)) (show nI (sz k + 0) = 8 + 0 from by rw [show sz k = 8 from by unfold sz; rw [if_neg (by omega), if_neg (by omega), if_neg (by omega), if_neg (by omega), if_neg (by omega), if_neg (by omega), if_neg (by omega), if_pos (by omega)]]; decide)) dJ6_stringSize_0f7a4_30
                · have k7 : k < 10000000 := by rcases Nat.lt_or_ge k 10000000 with h | h; exact h; exact absurd ((mI_le hk (b := 10000000) (by decide)).mpr h) c7
                  refine lv_iload_n S.1 S.2.1 dJ6_stringSize_0f7a4_27 rfl (lv_at hl 0 rfl) ?_
                  refine lv_iload_n S.1 S.2.1 dJ6_stringSize_0f7a4_28 rfl (lv_at hl 3 rfl) ?_
                  refine lv_iadd S.1 S.2.1 dJ6_stringSize_0f7a4_29 ?_
                  exact g_iretR S hr hlk hS (congrArg (fun z => some (Value.int z)) (show nI (sz k + 0) = 7 + 0 from by rw [show sz k = 7 from by unfold sz; rw [if_neg (by omega), if_neg (by omega), if_neg (by omega), if_neg (by omega), if_neg (by omega), if_neg (by omega), if_pos (by omega)]]; decide)) dJ6_stringSize_0f7a4_30
              · have k6 : k < 1000000 := by rcases Nat.lt_or_ge k 1000000 with h | h; exact h; exact absurd ((mI_le hk (b := 1000000) (by decide)).mpr h) c6
                refine lv_iload_n S.1 S.2.1 dJ6_stringSize_0f7a4_27 rfl (lv_at hl 0 rfl) ?_
                refine lv_iload_n S.1 S.2.1 dJ6_stringSize_0f7a4_28 rfl (lv_at hl 3 rfl) ?_
                refine lv_iadd S.1 S.2.1 dJ6_stringSize_0f7a4_29 ?_
                exact g_iretR S hr hlk hS (congrArg (fun z => some (Value.int z)) (show nI (sz k + 0) = 6 + 0 from by rw [show sz k = 6 from by unfold sz; rw [if_neg (by omega), if_neg (by omega), if_neg (by omega), if_neg (by omega), if_neg (by omega), if_pos (by omega)]]; decide)) dJ6_stringSize_0f7a4_30
            · have k5 : k < 100000 := by rcases Nat.lt_or_ge k 100000 with h | h; exact h; exact absurd ((mI_le hk (b := 100000) (by decide)).mpr h) c5
              refine lv_iload_n S.1 S.2.1 dJ6_stringSize_0f7a4_27 rfl (lv_at hl 0 rfl) ?_
              refine lv_iload_n S.1 S.2.1 dJ6_stringSize_0f7a4_28 rfl (lv_at hl 3 rfl) ?_
              refine lv_iadd S.1 S.2.1 dJ6_stringSize_0f7a4_29 ?_
              exact g_iretR S hr hlk hS (congrArg (fun z => some (Value.int z)) (show nI (sz k + 0) = 5 + 0 from by rw [show sz k = 5 from by unfold sz; rw [if_neg (by omega), if_neg (by omega), if_neg (by omega), if_neg (by omega), if_pos (by omega)]]; decide)) dJ6_stringSize_0f7a4_30
          · have k4 : k < 10000 := by rcases Nat.lt_or_ge k 10000 with h | h; exact h; exact absurd ((mI_le hk (b := 10000) (by decide)).mpr h) c4
            refine lv_iload_n S.1 S.2.1 dJ6_stringSize_0f7a4_27 rfl (lv_at hl 0 rfl) ?_
            refine lv_iload_n S.1 S.2.1 dJ6_stringSize_0f7a4_28 rfl (lv_at hl 3 rfl) ?_
            refine lv_iadd S.1 S.2.1 dJ6_stringSize_0f7a4_29 ?_
            exact g_iretR S hr hlk hS (congrArg (fun z => some (Value.int z)) (show nI (sz k + 0) = 4 + 0 from by rw [show sz k = 4 from by unfold sz; rw [if_neg (by omega), if_neg (by omega), if_neg (by omega), if_pos (by omega)]]; decide)) dJ6_stringSize_0f7a4_30
        · have k3 : k < 1000 := by rcases Nat.lt_or_ge k 1000 with h | h; exact h; exact absurd ((mI_le hk (b := 1000) (by decide)).mpr h) c3
          refine lv_iload_n S.1 S.2.1 dJ6_stringSize_0f7a4_27 rfl (lv_at hl 0 rfl) ?_
          refine lv_iload_n S.1 S.2.1 dJ6_stringSize_0f7a4_28 rfl (lv_at hl 3 rfl) ?_
          refine lv_iadd S.1 S.2.1 dJ6_stringSize_0f7a4_29 ?_
          exact g_iretR S hr hlk hS (congrArg (fun z => some (Value.int z)) (show nI (sz k + 0) = 3 + 0 from by rw [show sz k = 3 from by unfold sz; rw [if_neg (by omega), if_neg (by omega), if_pos (by omega)]]; decide)) dJ6_stringSize_0f7a4_30
      · have k2 : k < 100 := by rcases Nat.lt_or_ge k 100 with h | h; exact h; exact absurd ((mI_le hk (b := 100) (by decide)).mpr h) c2
        refine lv_iload_n S.1 S.2.1 dJ6_stringSize_0f7a4_27 rfl (lv_at hl 0 rfl) ?_
        refine lv_iload_n S.1 S.2.1 dJ6_stringSize_0f7a4_28 rfl (lv_at hl 3 rfl) ?_
        refine lv_iadd S.1 S.2.1 dJ6_stringSize_0f7a4_29 ?_
        exact g_iretR S hr hlk hS (congrArg (fun z => some (Value.int z)) (show nI (sz k + 0) = 2 + 0 from by rw [show sz k = 2 from by unfold sz; rw [if_neg (by omega), if_pos (by omega)]]; decide)) dJ6_stringSize_0f7a4_30
    · have k1 : k < 10 := by rcases Nat.lt_or_ge k 10 with h | h; exact h; exact absurd ((mI_le hk (b := 10) (by decide)).mpr h) c1
      refine lv_iload_n S.1 S.2.1 dJ6_stringSize_0f7a4_27 rfl (lv_at hl 0 rfl) ?_
      refine lv_iload_n S.1 S.2.1 dJ6_stringSize_0f7a4_28 rfl (lv_at hl 3 rfl) ?_
      refine lv_iadd S.1 S.2.1 dJ6_stringSize_0f7a4_29 ?_
      exact g_iretR S hr hlk hS (congrArg (fun z => some (Value.int z)) (show nI (sz k + 0) = 1 + 0 from by rw [show sz k = 1 from by unfold sz; rw [if_pos (by omega)]]; decide)) dJ6_stringSize_0f7a4_30
  · show Met l yJ6_stringSize_0f7a4 (ws_ yJ6_stringSize_0f7a4 cJ6_stringSize_0f7a4 4 (Option.some Jvm.ClassFile.FieldType.int)) ({ frames := 0, cells := 0, slots := 0, locals := 0 } : Room) (gPx D A [.int (mI k)] w (fun _ _ => True)) (gR (some (.int (nI (sz k + 1))))) 0 0 A
    refine g_metX [(0, .int (mI k))] (by decide +kernel) (Nat.le_of_ble_eq_true rfl) rfl (fun pg en s mi ar below me co ls S hK hP hD hE hS hx hr hlk hnm hl => ?_)
    refine lv_iconst (v := 1) S.1 S.2.1 dJ6_stringSize_0f7a4_0 (by decide) ?_
    refine lv_istore_n (lv' := [(1, .int 1), (0, .int (mI k))]) S.1 S.2.1 dJ6_stringSize_0f7a4_1 rfl hl (by decide) rfl (fun ls hl => ?_)
    refine lv_iload_n S.1 S.2.1 dJ6_stringSize_0f7a4_2 rfl (lv_at hl 1 rfl) ?_
    refine lv_if_lt (tgt := 11) S.1 S.2.1 dJ6_stringSize_0f7a4_3 (by decide) (fun _ => ?_) (fun z9 => absurd (by rw [Int32.lt_iff_toInt_lt, mI_toInt hk, Int32.toInt_zero]; have := hp rfl; omega) z9)
    refine lv_bipush (v := (-10)) S.1 S.2.1 dJ6_stringSize_0f7a4_11 (by decide) ?_
    refine lv_istore_n (lv' := [(2, .int (-10)), (1, .int 1), (0, .int (mI k))]) S.1 S.2.1 dJ6_stringSize_0f7a4_13 rfl hl (by decide) rfl (fun ls hl => ?_)
    refine lv_iconst (v := 1) S.1 S.2.1 dJ6_stringSize_0f7a4_14 (by decide) ?_
    refine lv_istore_n (lv' := [(3, .int 1), (2, .int (-10)), (1, .int 1), (0, .int (mI k))]) S.1 S.2.1 dJ6_stringSize_0f7a4_15 rfl hl (by decide) rfl (fun ls hl => ?_)
    refine lv_iload_n S.1 S.2.1 dJ6_stringSize_0f7a4_16 rfl (lv_at hl 0 rfl) ?_
    refine lv_bipush (v := 10) S.1 S.2.1 dJ6_stringSize_0f7a4_17 (by decide) ?_
    refine lv_icmp_ge (tgt := 42) S.1 S.2.1 dJ6_stringSize_0f7a4_19 (by decide) (fun z9 => absurd z9 (by decide)) (fun _ => ?_)
    refine lv_iload_n S.1 S.2.1 dJ6_stringSize_0f7a4_22 rfl (lv_at hl 3 rfl) ?_
    refine lv_iload_n S.1 S.2.1 dJ6_stringSize_0f7a4_23 rfl (lv_at hl 1 rfl) ?_
    refine lv_icmp_le (tgt := 31) S.1 S.2.1 dJ6_stringSize_0f7a4_24 (by decide) (fun c1 => ?_) (fun c1 => ?_)
    · have k1 : 10 ≤ k := (mI_le hk (b := 10) (by decide)).mp c1
      refine lv_bipush (v := 10) S.1 S.2.1 dJ6_stringSize_0f7a4_31 (by decide) ?_
      refine lv_iload_n S.1 S.2.1 dJ6_stringSize_0f7a4_33 rfl (lv_at hl 1 rfl) ?_
      refine lv_imul S.1 S.2.1 dJ6_stringSize_0f7a4_34 ?_
      rw [show (((10 : Int32) : Int32) * (-10)) = (-100) from by decide]
      refine lv_istore_n (lv' := [(2, .int (-100)), (3, .int 1), (1, .int 1), (0, .int (mI k))]) S.1 S.2.1 dJ6_stringSize_0f7a4_35 rfl hl (by decide) rfl (fun ls hl => ?_)
      refine lv_iinc (v := 2) (lv' := [(3, .int 2), (2, .int (-100)), (1, .int 1), (0, .int (mI k))]) S.1 S.2.1 dJ6_stringSize_0f7a4_36 hl (k := 1) rfl (by decide) (by decide) rfl (fun ls hl => ?_)
      refine lv_goto (tgt := 16) S.1 S.2.1 dJ6_stringSize_0f7a4_39 (by decide) ?_
      refine lv_iload_n S.1 S.2.1 dJ6_stringSize_0f7a4_16 rfl (lv_at hl 0 rfl) ?_
      refine lv_bipush (v := 10) S.1 S.2.1 dJ6_stringSize_0f7a4_17 (by decide) ?_
      refine lv_icmp_ge (tgt := 42) S.1 S.2.1 dJ6_stringSize_0f7a4_19 (by decide) (fun z9 => absurd z9 (by decide)) (fun _ => ?_)
      refine lv_iload_n S.1 S.2.1 dJ6_stringSize_0f7a4_22 rfl (lv_at hl 3 rfl) ?_
      refine lv_iload_n S.1 S.2.1 dJ6_stringSize_0f7a4_23 rfl (lv_at hl 1 rfl) ?_
      refine lv_icmp_le (tgt := 31) S.1 S.2.1 dJ6_stringSize_0f7a4_24 (by decide) (fun c2 => ?_) (fun c2 => ?_)
      · have k2 : 100 ≤ k := (mI_le hk (b := 100) (by decide)).mp c2
        refine lv_bipush (v := 10) S.1 S.2.1 dJ6_stringSize_0f7a4_31 (by decide) ?_
        refine lv_iload_n S.1 S.2.1 dJ6_stringSize_0f7a4_33 rfl (lv_at hl 1 rfl) ?_
        refine lv_imul S.1 S.2.1 dJ6_stringSize_0f7a4_34 ?_
        rw [show (((10 : Int32) : Int32) * (-100)) = (-1000) from by decide]
        refine lv_istore_n (lv' := [(2, .int (-1000)), (3, .int 2), (1, .int 1), (0, .int (mI k))]) S.1 S.2.1 dJ6_stringSize_0f7a4_35 rfl hl (by decide) rfl (fun ls hl => ?_)
        refine lv_iinc (v := 3) (lv' := [(3, .int 3), (2, .int (-1000)), (1, .int 1), (0, .int (mI k))]) S.1 S.2.1 dJ6_stringSize_0f7a4_36 hl (k := 1) rfl (by decide) (by decide) rfl (fun ls hl => ?_)
        refine lv_goto (tgt := 16) S.1 S.2.1 dJ6_stringSize_0f7a4_39 (by decide) ?_
        refine lv_iload_n S.1 S.2.1 dJ6_stringSize_0f7a4_16 rfl (lv_at hl 0 rfl) ?_
        refine lv_bipush (v := 10) S.1 S.2.1 dJ6_stringSize_0f7a4_17 (by decide) ?_
        refine lv_icmp_ge (tgt := 42) S.1 S.2.1 dJ6_stringSize_0f7a4_19 (by decide) (fun z9 => absurd z9 (by decide)) (fun _ => ?_)
        refine lv_iload_n S.1 S.2.1 dJ6_stringSize_0f7a4_22 rfl (lv_at hl 3 rfl) ?_
        refine lv_iload_n S.1 S.2.1 dJ6_stringSize_0f7a4_23 rfl (lv_at hl 1 rfl) ?_
        refine lv_icmp_le (tgt := 31) S.1 S.2.1 dJ6_stringSize_0f7a4_24 (by decide) (fun c3 => ?_) (fun c3 => ?_)
        · have k3 : 1000 ≤ k := (mI_le hk (b := 1000) (by decide)).mp c3
          refine lv_bipush (v := 10) S.1 S.2.1 dJ6_stringSize_0f7a4_31 (by decide) ?_
          refine lv_iload_n S.1 S.2.1 dJ6_stringSize_0f7a4_33 rfl (lv_at hl 1 rfl) ?_
          refine lv_imul S.1 S.2.1 dJ6_stringSize_0f7a4_34 ?_
          rw [show (((10 : Int32) : Int32) * (-1000)) = (-10000) from by decide]
          refine lv_istore_n (lv' := [(2, .int (-10000)), (3, .int 3), (1, .int 1), (0, .int (mI k))]) S.1 S.2.1 dJ6_stringSize_0f7a4_35 rfl hl (by decide) rfl (fun ls hl => ?_)
          refine lv_iinc (v := 4) (lv' := [(3, .int 4), (2, .int (-10000)), (1, .int 1), (0, .int (mI k))]) S.1 S.2.1 dJ6_stringSize_0f7a4_36 hl (k := 1) rfl (by decide) (by decide) rfl (fun ls hl => ?_)
          refine lv_goto (tgt := 16) S.1 S.2.1 dJ6_stringSize_0f7a4_39 (by decide) ?_
          refine lv_iload_n S.1 S.2.1 dJ6_stringSize_0f7a4_16 rfl (lv_at hl 0 rfl) ?_
          refine lv_bipush (v := 10) S.1 S.2.1 dJ6_stringSize_0f7a4_17 (by decide) ?_
          refine lv_icmp_ge (tgt := 42) S.1 S.2.1 dJ6_stringSize_0f7a4_19 (by decide) (fun z9 => absurd z9 (by decide)) (fun _ => ?_)
          refine lv_iload_n S.1 S.2.1 dJ6_stringSize_0f7a4_22 rfl (lv_at hl 3 rfl) ?_
          refine lv_iload_n S.1 S.2.1 dJ6_stringSize_0f7a4_23 rfl (lv_at hl 1 rfl) ?_
          refine lv_icmp_le (tgt := 31) S.1 S.2.1 dJ6_stringSize_0f7a4_24 (by decide) (fun c4 => ?_) (fun c4 => ?_)
          · have k4 : 10000 ≤ k := (mI_le hk (b := 10000) (by decide)).mp c4
            refine lv_bipush (v := 10) S.1 S.2.1 dJ6_stringSize_0f7a4_31 (by decide) ?_
            refine lv_iload_n S.1 S.2.1 dJ6_stringSize_0f7a4_33 rfl (lv_at hl 1 rfl) ?_
            refine lv_imul S.1 S.2.1 dJ6_stringSize_0f7a4_34 ?_
            rw [show (((10 : Int32) : Int32) * (-10000)) = (-100000) from by decide]
            refine lv_istore_n (lv' := [(2, .int (-100000)), (3, .int 4), (1, .int 1), (0, .int (mI k))]) S.1 S.2.1 dJ6_stringSize_0f7a4_35 rfl hl (by decide) rfl (fun ls hl => ?_)
            refine lv_iinc (v := 5) (lv' := [(3, .int 5), (2, .int (-100000)), (1, .int 1), (0, .int (mI k))]) S.1 S.2.1 dJ6_stringSize_0f7a4_36 hl (k := 1) rfl (by decide) (by decide) rfl (fun ls hl => ?_)
            refine lv_goto (tgt := 16) S.1 S.2.1 dJ6_stringSize_0f7a4_39 (by decide) ?_
            refine lv_iload_n S.1 S.2.1 dJ6_stringSize_0f7a4_16 rfl (lv_at hl 0 rfl) ?_
            refine lv_bipush (v := 10) S.1 S.2.1 dJ6_stringSize_0f7a4_17 (by decide) ?_
            refine lv_icmp_ge (tgt := 42) S.1 S.2.1 dJ6_stringSize_0f7a4_19 (by decide) (fun z9 => absurd z9 (by decide)) (fun _ => ?_)
            refine lv_iload_n S.1 S.2.1 dJ6_stringSize_0f7a4_22 rfl (lv_at hl 3 rfl) ?_
            refine lv_iload_n S.1 S.2.1 dJ6_stringSize_0f7a4_23 rfl (lv_at hl 1 rfl) ?_
            refine lv_icmp_le (tgt := 31) S.1 S.2.1 dJ6_stringSize_0f7a4_24 (by decide) (fun c5 => ?_) (fun c5 => ?_)
            · have k5 : 100000 ≤ k := (mI_le hk (b := 100000) (by decide)).mp c5
              refine lv_bipush (v := 10) S.1 S.2.1 dJ6_stringSize_0f7a4_31 (by decide) ?_
              refine lv_iload_n S.1 S.2.1 dJ6_stringSize_0f7a4_33 rfl (lv_at hl 1 rfl) ?_
              refine lv_imul S.1 S.2.1 dJ6_stringSize_0f7a4_34 ?_
              rw [show (((10 : Int32) : Int32) * (-100000)) = (-1000000) from by decide]
              refine lv_istore_n (lv' := [(2, .int (-1000000)), (3, .int 5), (1, .int 1), (0, .int (mI k))]) S.1 S.2.1 dJ6_stringSize_0f7a4_35 rfl hl (by decide) rfl (fun ls hl => ?_)
              refine lv_iinc (v := 6) (lv' := [(3, .int 6), (2, .int (-1000000)), (1, .int 1), (0, .int (mI k))]) S.1 S.2.1 dJ6_stringSize_0f7a4_36 hl (k := 1) rfl (by decide) (by decide) rfl (fun ls hl => ?_)
              refine lv_goto (tgt := 16) S.1 S.2.1 dJ6_stringSize_0f7a4_39 (by decide) ?_
              refine lv_iload_n S.1 S.2.1 dJ6_stringSize_0f7a4_16 rfl (lv_at hl 0 rfl) ?_
              refine lv_bipush (v := 10) S.1 S.2.1 dJ6_stringSize_0f7a4_17 (by decide) ?_
              refine lv_icmp_ge (tgt := 42) S.1 S.2.1 dJ6_stringSize_0f7a4_19 (by decide) (fun z9 => absurd z9 (by decide)) (fun _ => ?_)
              refine lv_iload_n S.1 S.2.1 dJ6_stringSize_0f7a4_22 rfl (lv_at hl 3 rfl) ?_
              refine lv_iload_n S.1 S.2.1 dJ6_stringSize_0f7a4_23 rfl (lv_at hl 1 rfl) ?_
              refine lv_icmp_le (tgt := 31) S.1 S.2.1 dJ6_stringSize_0f7a4_24 (by decide) (fun c6 => ?_) (fun c6 => ?_)
              · have k6 : 1000000 ≤ k := (mI_le hk (b := 1000000) (by decide)).mp c6
                refine lv_bipush (v := 10) S.1 S.2.1 dJ6_stringSize_0f7a4_31 (by decide) ?_
                refine lv_iload_n S.1 S.2.1 dJ6_stringSize_0f7a4_33 rfl (lv_at hl 1 rfl) ?_
                refine lv_imul S.1 S.2.1 dJ6_stringSize_0f7a4_34 ?_
                rw [show (((10 : Int32) : Int32) * (-1000000)) = (-10000000) from by decide]
                refine lv_istore_n (lv' := [(2, .int (-10000000)), (3, .int 6), (1, .int 1), (0, .int (mI k))]) S.1 S.2.1 dJ6_stringSize_0f7a4_35 rfl hl (by decide) rfl (fun ls hl => ?_)
                refine lv_iinc (v := 7) (lv' := [(3, .int 7), (2, .int (-10000000)), (1, .int 1), (0, .int (mI k))]) S.1 S.2.1 dJ6_stringSize_0f7a4_36 hl (k := 1) rfl (by decide) (by decide) rfl (fun ls hl => ?_)
                refine lv_goto (tgt := 16) S.1 S.2.1 dJ6_stringSize_0f7a4_39 (by decide) ?_
                refine lv_iload_n S.1 S.2.1 dJ6_stringSize_0f7a4_16 rfl (lv_at hl 0 rfl) ?_
                refine lv_bipush (v := 10) S.1 S.2.1 dJ6_stringSize_0f7a4_17 (by decide) ?_
                refine lv_icmp_ge (tgt := 42) S.1 S.2.1 dJ6_stringSize_0f7a4_19 (by decide) (fun z9 => absurd z9 (by decide)) (fun _ => ?_)
                refine lv_iload_n S.1 S.2.1 dJ6_stringSize_0f7a4_22 rfl (lv_at hl 3 rfl) ?_
                refine lv_iload_n S.1 S.2.1 dJ6_stringSize_0f7a4_23 rfl (lv_at hl 1 rfl) ?_
                refine lv_icmp_le (tgt := 31) S.1 S.2.1 dJ6_stringSize_0f7a4_24 (by decide) (fun c7 => ?_) (fun c7 => ?_)
                · have k7 : 10000000 ≤ k := (mI_le hk (b := 10000000) (by decide)).mp c7
                  refine lv_bipush (v := 10) S.1 S.2.1 dJ6_stringSize_0f7a4_31 (by decide) ?_
                  refine lv_iload_n S.1 S.2.1 dJ6_stringSize_0f7a4_33 rfl (lv_at hl 1 rfl) ?_
                  refine lv_imul S.1 S.2.1 dJ6_stringSize_0f7a4_34 ?_
                  rw [show (((10 : Int32) : Int32) * (-10000000)) = (-100000000) from by decide]
                  refine lv_istore_n (lv' := [(2, .int (-100000000)), (3, .int 7), (1, .int 1), (0, .int (mI k))]) S.1 S.2.1 dJ6_stringSize_0f7a4_35 rfl hl (by decide) rfl (fun ls hl => ?_)
                  refine lv_iinc (v := 8) (lv' := [(3, .int 8), (2, .int (-100000000)), (1, .int 1), (0, .int (mI k))]) S.1 S.2.1 dJ6_stringSize_0f7a4_36 hl (k := 1) rfl (by decide) (by decide) rfl (fun ls hl => ?_)
                  refine lv_goto (tgt := 16) S.1 S.2.1 dJ6_stringSize_0f7a4_39 (by decide) ?_
                  refine lv_iload_n S.1 S.2.1 dJ6_stringSize_0f7a4_16 rfl (lv_at hl 0 rfl) ?_
                  refine lv_bipush (v := 10) S.1 S.2.1 dJ6_stringSize_0f7a4_17 (by decide) ?_
                  refine lv_icmp_ge (tgt := 42) S.1 S.2.1 dJ6_stringSize_0f7a4_19 (by decide) (fun z9 => absurd z9 (by decide)) (fun _ => ?_)
                  refine lv_iload_n S.1 S.2.1 dJ6_stringSize_0f7a4_22 rfl (lv_at hl 3 rfl) ?_
                  refine lv_iload_n S.1 S.2.1 dJ6_stringSize_0f7a4_23 rfl (lv_at hl 1 rfl) ?_
                  refine lv_icmp_le (tgt := 31) S.1 S.2.1 dJ6_stringSize_0f7a4_24 (by decide) (fun c8 => ?_) (fun c8 => ?_)
                  · have k8 : 100000000 ≤ k := (mI_le hk (b := 100000000) (by decide)).mp c8
                    refine lv_bipush (v := 10) S.1 S.2.1 dJ6_stringSize_0f7a4_31 (by decide) ?_
                    refine lv_iload_n S.1 S.2.1 dJ6_stringSize_0f7a4_33 rfl (lv_at hl 1 rfl) ?_
                    refine lv_imul S.1 S.2.1 dJ6_stringSize_0f7a4_34 ?_
                    rw [show (((10 : Int32) : Int32) * (-100000000)) = (-1000000000) from by decide]
                    refine lv_istore_n (lv' := [(2, .int (-1000000000)), (3, .int 8), (1, .int 1), (0, .int (mI k))]) S.1 S.2.1 dJ6_stringSize_0f7a4_35 rfl hl (by decide) rfl (fun ls hl => ?_)
                    refine lv_iinc (v := 9) (lv' := [(3, .int 9), (2, .int (-1000000000)), (1, .int 1), (0, .int (mI k))]) S.1 S.2.1 dJ6_stringSize_0f7a4_36 hl (k := 1) rfl (by decide) (by decide) rfl (fun ls hl => ?_)
                    refine lv_goto (tgt := 16) S.1 S.2.1 dJ6_stringSize_0f7a4_39 (by decide) ?_
                    refine lv_iload_n S.1 S.2.1 dJ6_stringSize_0f7a4_16 rfl (lv_at hl 0 rfl) ?_
                    refine lv_bipush (v := 10) S.1 S.2.1 dJ6_stringSize_0f7a4_17 (by decide) ?_
                    refine lv_icmp_ge (tgt := 42) S.1 S.2.1 dJ6_stringSize_0f7a4_19 (by decide) (fun z9 => absurd z9 (by decide)) (fun _ => ?_)
                    refine lv_iload_n S.1 S.2.1 dJ6_stringSize_0f7a4_22 rfl (lv_at hl 3 rfl) ?_
                    refine lv_iload_n S.1 S.2.1 dJ6_stringSize_0f7a4_23 rfl (lv_at hl 1 rfl) ?_
                    refine lv_icmp_le (tgt := 31) S.1 S.2.1 dJ6_stringSize_0f7a4_24 (by decide) (fun c9 => ?_) (fun c9 => ?_)
                    · have k9 : 1000000000 ≤ k := (mI_le hk (b := 1000000000) (by decide)).mp c9
                      refine lv_bipush (v := 10) S.1 S.2.1 dJ6_stringSize_0f7a4_31 (by decide) ?_
                      refine lv_iload_n S.1 S.2.1 dJ6_stringSize_0f7a4_33 rfl (lv_at hl 1 rfl) ?_
                      refine lv_imul S.1 S.2.1 dJ6_stringSize_0f7a4_34 ?_
                      rw [show (((10 : Int32) : Int32) * (-1000000000)) = (-1410065408) from by decide]
                      refine lv_istore_n (lv' := [(2, .int (-1410065408)), (3, .int 9), (1, .int 1), (0, .int (mI k))]) S.1 S.2.1 dJ6_stringSize_0f7a4_35 rfl hl (by decide) rfl (fun ls hl => ?_)
                      refine lv_iinc (v := 10) (lv' := [(3, .int 10), (2, .int (-1410065408)), (1, .int 1), (0, .int (mI k))]) S.1 S.2.1 dJ6_stringSize_0f7a4_36 hl (k := 1) rfl (by decide) (by decide) rfl (fun ls hl => ?_)
                      refine lv_goto (tgt := 16) S.1 S.2.1 dJ6_stringSize_0f7a4_39 (by decide) ?_
                      refine lv_iload_n S.1 S.2.1 dJ6_stringSize_0f7a4_16 rfl (lv_at hl 0 rfl) ?_
                      refine lv_bipush (v := 10) S.1 S.2.1 dJ6_stringSize_0f7a4_17 (by decide) ?_
                      refine lv_icmp_ge (tgt := 42) S.1 S.2.1 dJ6_stringSize_0f7a4_19 (by decide) (fun _ => ?_) (fun z9 => absurd (by decide) z9)
                      refine lv_bipush (v := 10) S.1 S.2.1 dJ6_stringSize_0f7a4_42 (by decide) ?_
                      refine lv_iload_n S.1 S.2.1 dJ6_stringSize_0f7a4_44 rfl (lv_at hl 2 rfl) ?_
                      refine lv_iadd S.1 S.2.1 dJ6_stringSize_0f7a4_45 ?_
                      exact g_iretR S hr hlk hS (congrArg (fun z => some (Value.int z)) ((show nI (sz k + 1) = 10 + 1 from by rw [show sz k = 10 from by unfold sz; rw [if_neg (by omega), if_neg (by omega), if_neg (by omega), if_neg (by omega), if_neg (by omega), if_neg (by omega), if_neg (by omega), if_neg (by omega), if_neg (by omega)]]; decide))) dJ6_stringSize_0f7a4_46
                    · have k9 : k < 1000000000 := by rcases Nat.lt_or_ge k 1000000000 with h | h; exact h; exact absurd ((mI_le hk (b := 1000000000) (by decide)).mpr h) c9
                      refine lv_iload_n S.1 S.2.1 dJ6_stringSize_0f7a4_27 rfl (lv_at hl 0 rfl) ?_
                      refine lv_iload_n S.1 S.2.1 dJ6_stringSize_0f7a4_28 rfl (lv_at hl 2 rfl) ?_
                      refine lv_iadd S.1 S.2.1 dJ6_stringSize_0f7a4_29 ?_
                      exact g_iretR S hr hlk hS (congrArg (fun z => some (Value.int z)) (show nI (sz k + 1) = 9 + 1 from by rw [show sz k = 9 from by unfold sz; rw [if_neg (by omega), if_neg (by omega), if_neg (by omega), if_neg (by omega), if_neg (by omega), if_neg (by omega), if_neg (by omega), if_neg (by omega), if_pos (by omega)]]; decide)) dJ6_stringSize_0f7a4_30
                  · have k8 : k < 100000000 := by rcases Nat.lt_or_ge k 100000000 with h | h; exact h; exact absurd ((mI_le hk (b := 100000000) (by decide)).mpr h) c8
                    refine lv_iload_n S.1 S.2.1 dJ6_stringSize_0f7a4_27 rfl (lv_at hl 0 rfl) ?_
                    refine lv_iload_n S.1 S.2.1 dJ6_stringSize_0f7a4_28 rfl (lv_at hl 2 rfl) ?_
                    refine lv_iadd S.1 S.2.1 dJ6_stringSize_0f7a4_29 ?_
                    exact g_iretR S hr hlk hS (congrArg (fun z => some (Value.int z)) (show nI (sz k + 1) = 8 + 1 from by rw [show sz k = 8 from by unfold sz; rw [if_neg (by omega), if_neg (by omega), if_neg (by omega), if_neg (by omega), if_neg (by omega), if_neg (by omega), if_neg (by omega), if_pos (by omega)]]; decide)) dJ6_stringSize_0f7a4_30
                · have k7 : k < 10000000 := by rcases Nat.lt_or_ge k 10000000 with h | h; exact h; exact absurd ((mI_le hk (b := 10000000) (by decide)).mpr h) c7
                  refine lv_iload_n S.1 S.2.1 dJ6_stringSize_0f7a4_27 rfl (lv_at hl 0 rfl) ?_
                  refine lv_iload_n S.1 S.2.1 dJ6_stringSize_0f7a4_28 rfl (lv_at hl 2 rfl) ?_
                  refine lv_iadd S.1 S.2.1 dJ6_stringSize_0f7a4_29 ?_
                  exact g_iretR S hr hlk hS (congrArg (fun z => some (Value.int z)) (show nI (sz k + 1) = 7 + 1 from by rw [show sz k = 7 from by unfold sz; rw [if_neg (by omega), if_neg (by omega), if_neg (by omega), if_neg (by omega), if_neg (by omega), if_neg (by omega), if_pos (by omega)]]; decide)) dJ6_stringSize_0f7a4_30
              · have k6 : k < 1000000 := by rcases Nat.lt_or_ge k 1000000 with h | h; exact h; exact absurd ((mI_le hk (b := 1000000) (by decide)).mpr h) c6
                refine lv_iload_n S.1 S.2.1 dJ6_stringSize_0f7a4_27 rfl (lv_at hl 0 rfl) ?_
                refine lv_iload_n S.1 S.2.1 dJ6_stringSize_0f7a4_28 rfl (lv_at hl 2 rfl) ?_
                refine lv_iadd S.1 S.2.1 dJ6_stringSize_0f7a4_29 ?_
                exact g_iretR S hr hlk hS (congrArg (fun z => some (Value.int z)) (show nI (sz k + 1) = 6 + 1 from by rw [show sz k = 6 from by unfold sz; rw [if_neg (by omega), if_neg (by omega), if_neg (by omega), if_neg (by omega), if_neg (by omega), if_pos (by omega)]]; decide)) dJ6_stringSize_0f7a4_30
            · have k5 : k < 100000 := by rcases Nat.lt_or_ge k 100000 with h | h; exact h; exact absurd ((mI_le hk (b := 100000) (by decide)).mpr h) c5
              refine lv_iload_n S.1 S.2.1 dJ6_stringSize_0f7a4_27 rfl (lv_at hl 0 rfl) ?_
              refine lv_iload_n S.1 S.2.1 dJ6_stringSize_0f7a4_28 rfl (lv_at hl 2 rfl) ?_
              refine lv_iadd S.1 S.2.1 dJ6_stringSize_0f7a4_29 ?_
              exact g_iretR S hr hlk hS (congrArg (fun z => some (Value.int z)) (show nI (sz k + 1) = 5 + 1 from by rw [show sz k = 5 from by unfold sz; rw [if_neg (by omega), if_neg (by omega), if_neg (by omega), if_neg (by omega), if_pos (by omega)]]; decide)) dJ6_stringSize_0f7a4_30
          · have k4 : k < 10000 := by rcases Nat.lt_or_ge k 10000 with h | h; exact h; exact absurd ((mI_le hk (b := 10000) (by decide)).mpr h) c4
            refine lv_iload_n S.1 S.2.1 dJ6_stringSize_0f7a4_27 rfl (lv_at hl 0 rfl) ?_
            refine lv_iload_n S.1 S.2.1 dJ6_stringSize_0f7a4_28 rfl (lv_at hl 2 rfl) ?_
            refine lv_iadd S.1 S.2.1 dJ6_stringSize_0f7a4_29 ?_
            exact g_iretR S hr hlk hS (congrArg (fun z => some (Value.int z)) (show nI (sz k + 1) = 4 + 1 from by rw [show sz k = 4 from by unfold sz; rw [if_neg (by omega), if_neg (by omega), if_neg (by omega), if_pos (by omega)]]; decide)) dJ6_stringSize_0f7a4_30
        · have k3 : k < 1000 := by rcases Nat.lt_or_ge k 1000 with h | h; exact h; exact absurd ((mI_le hk (b := 1000) (by decide)).mpr h) c3
          refine lv_iload_n S.1 S.2.1 dJ6_stringSize_0f7a4_27 rfl (lv_at hl 0 rfl) ?_
          refine lv_iload_n S.1 S.2.1 dJ6_stringSize_0f7a4_28 rfl (lv_at hl 2 rfl) ?_
          refine lv_iadd S.1 S.2.1 dJ6_stringSize_0f7a4_29 ?_
          exact g_iretR S hr hlk hS (congrArg (fun z => some (Value.int z)) (show nI (sz k + 1) = 3 + 1 from by rw [show sz k = 3 from by unfold sz; rw [if_neg (by omega), if_neg (by omega), if_pos (by omega)]]; decide)) dJ6_stringSize_0f7a4_30
      · have k2 : k < 100 := by rcases Nat.lt_or_ge k 100 with h | h; exact h; exact absurd ((mI_le hk (b := 100) (by decide)).mpr h) c2
        refine lv_iload_n S.1 S.2.1 dJ6_stringSize_0f7a4_27 rfl (lv_at hl 0 rfl) ?_
        refine lv_iload_n S.1 S.2.1 dJ6_stringSize_0f7a4_28 rfl (lv_at hl 2 rfl) ?_
        refine lv_iadd S.1 S.2.1 dJ6_stringSize_0f7a4_29 ?_
        exact g_iretR S hr hlk hS (congrArg (fun z => some (Value.int z)) (show nI (sz k + 1) = 2 + 1 from by rw [show sz k = 2 from by unfold sz; rw [if_neg (by omega), if_pos (by omega)]]; decide)) dJ6_stringSize_0f7a4_30
    · have k1 : k < 10 := by rcases Nat.lt_or_ge k 10 with h | h; exact h; exact absurd ((mI_le hk (b := 10) (by decide)).mpr h) c1
      refine lv_iload_n S.1 S.2.1 dJ6_stringSize_0f7a4_27 rfl (lv_at hl 0 rfl) ?_
      refine lv_iload_n S.1 S.2.1 dJ6_stringSize_0f7a4_28 rfl (lv_at hl 2 rfl) ?_
      refine lv_iadd S.1 S.2.1 dJ6_stringSize_0f7a4_29 ?_
      exact g_iretR S hr hlk hS (congrArg (fun z => some (Value.int z)) (show nI (sz k + 1) = 1 + 1 from by rw [show sz k = 1 from by unfold sz; rw [if_pos (by omega)]]; decide)) dJ6_stringSize_0f7a4_30
