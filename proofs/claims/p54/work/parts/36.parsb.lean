noncomputable def T_X4_advance_8 (tp : Nat → Int32) (tl : Int32) (sw8 : Int32) : Sum (Int32) (Int32) := (if tl ≤ sw8 then (.inr sw8) else (bif (f_X4_isSpace (f_X1_at 800 tp tl sw8)) then (.inl (sw8 + 1)) else (.inr sw8)))
noncomputable def X_X4_advance_8 (pe : Int32) (tp : Nat → Int32) (tl : Int32) : Int32 := whl_ ((T_X4_advance_8 tp tl)) 801 pe
noncomputable def J_X4_advance_251 (pe : Int32) (tp : Nat → Int32) (tl : Int32) : Int32 := (if (f_X1_at 800 tp tl (X_X4_advance_8 pe tp tl)) = 59 then 3 else 4)
noncomputable def T_X4_advance_146 (tp : Nat → Int32) (tl : Int32) (sw146 : Int32) : Sum (Int32) (Int32) := (if tl ≤ sw146 then (.inr sw146) else (bif (f_X4_isDigit (f_X1_at 800 tp tl sw146)) then (.inl (sw146 + 1)) else (.inr sw146)))
noncomputable def X_X4_advance_146 (pe : Int32) (tp : Nat → Int32) (tl : Int32) : Int32 := whl_ ((T_X4_advance_146 tp tl)) 801 (X_X4_advance_8 pe tp tl)
noncomputable def J_X4_advance_201 (pe : Int32) (tp : Nat → Int32) (tl : Int32) : Int32 := (if 3 < ((X_X4_advance_146 pe tp tl) - (X_X4_advance_8 pe tp tl)) then 4 else 2)
noncomputable def T_X4_advance_77 (tp : Nat → Int32) (tl : Int32) (sw77 : Int32) : Sum (Int32) (Int32) := (if tl ≤ sw77 then (.inr sw77) else (bif (f_X4_isLetter (f_X1_at 800 tp tl sw77)) then (.inl (sw77 + 1)) else (.inr sw77)))
noncomputable def X_X4_advance_77 (pe : Int32) (tp : Nat → Int32) (tl : Int32) : Int32 := whl_ ((T_X4_advance_77 tp tl)) 801 (X_X4_advance_8 pe tp tl)
noncomputable def f_X4_advance (pe : Int32) (tp : Nat → Int32) (tl : Int32) : Int32 × Int32 × Int32 := (bif (f_X4_isLetter (f_X1_at 800 tp tl (X_X4_advance_8 pe tp tl))) then ((X_X4_advance_77 pe tp tl), 1, (X_X4_advance_8 pe tp tl)) else (bif (f_X4_isDigit (f_X1_at 800 tp tl (X_X4_advance_8 pe tp tl))) then ((X_X4_advance_146 pe tp tl), (J_X4_advance_201 pe tp tl), (X_X4_advance_8 pe tp tl)) else (if (X_X4_advance_8 pe tp tl) < tl then (((X_X4_advance_8 pe tp tl) + 1), (J_X4_advance_251 pe tp tl), (X_X4_advance_8 pe tp tl)) else ((X_X4_advance_8 pe tp tl), 0, (X_X4_advance_8 pe tp tl)))))
set_option maxHeartbeats 4000000 in
set_option maxRecDepth 100000 in
theorem c_X4_advance (l : Launch) (D : va_G) (A : Nat → Prop) (w : va_W) (α : Nat → Nat) (k : Nat) (pk : Int32) (pst : Int32) (pe : Int32) (tp : Nat → Int32) (tl : Int32) (dnums : Nat → Int32) (dbNames : Nat → Int32) (dpNames : Nat → Int32) (dfBoats : Nat → Int32) (dnB : Int32) (dnP : Int32) (hB0 : Blk w k (cParser D α k pk pst pe tp tl dnums dbNames dpNames dfBoats dnB dnP)) (hy0 : rd_ pe tl) : Met l yX4_advance (ws_ yX4_advance cX4_advance 1 none) ({ frames := 1, cells := 0, slots := 0, locals := 21 }) (gPre D A [.ref (α (k))] w) (gQ D A none (fun w1 => Blk w1 k (cParser D α k ((f_X4_advance pe tp tl).2.1) ((f_X4_advance pe tp tl).2.2) ((f_X4_advance pe tp tl).1) tp tl dnums dbNames dpNames dfBoats dnB dnP) ∧ Same w w1 k 8 ∧ (rd3 (f_X4_advance pe tp tl).2.2 (f_X4_advance pe tp tl).1 tl))) 0 0 A := by
  refine g_met [(0, .ref (α (k)))] (plainFor_of_name (by decide)) (Nat.le_of_ble_eq_true rfl) rfl (fun pg en s mi ar below me co ls S hK hP hD hE hS hr hlk hnm hl => ?_)
  have hF : Same w w k 8 := Same.rf
  refine lv_aload_n S.1 S.2.1 dX4_advance_0 rfl (lv_at hl 0 rfl) ?_
  refine lv_aload_n S.1 S.2.1 dX4_advance_1 rfl (lv_at hl 0 rfl) ?_
  refine g_get (v := .int pe) S hK hP (hB0 0 _ rfl) rfl inX4 4 (by decide) qw87 rfl dX4_advance_2 ?_
  refine g_put S hK hP hD hS (hB0 0 _ rfl) rfl inX4 tyX4_ok nmX4 3 (by decide) qw86 rfl rfl rfl (Nat.le_of_ble_eq_true rfl) dX4_advance_5 (fun w1 H locs hw hP hD hS => ?_)
  have hF := Same.set hF 0 hw (by decide)
  have hB0 : Blk w1 k (cParser D α k pk pe pe tp tl dnums dbNames dpNames dfBoats dnB dnP) := hB0.set 0 hw (Nat.le_of_ble_eq_true rfl) rfl
  have jw8 : (rd_ (X_X4_advance_8 pe tp tl) tl) → ∀ (wl : va_W) (H : Heap) (locs : List Loc) (ls : Array Slot), va_P D vwCl wl H → va_D A wl → va_S A s.heap H locs → Same w wl k 8 → Blk wl k (cParser D α k pk (X_X4_advance_8 pe tp tl) pe tp tl dnums dbNames dpNames dfBoats dnB dnP) → lv_has ls 1 [(0, .ref (α (k)))] → W pg l en ({ frames := 1, cells := 0, slots := 0, locals := 21 } : Room) s mi ar below me co H locs 0 0 (MQ below (gQ D A none (fun w1 => Blk w1 k (cParser D α k ((f_X4_advance pe tp tl).2.1) ((f_X4_advance pe tp tl).2.2) ((f_X4_advance pe tp tl).1) tp tl dnums dbNames dpNames dfBoats dnB dnP) ∧ Same w w1 k 8 ∧ (rd3 (f_X4_advance pe tp tl).2.2 (f_X4_advance pe tp tl).1 tl))) ar s 0 0 A) (F0 mi 52 ls []) := by
    intro hpo wl H locs ls hP hD hS hF hB0 hl
    refine lv_aload_n S.1 S.2.1 dX4_advance_52 rfl (lv_at hl 0 rfl) ?_
    refine lv_aload_n S.1 S.2.1 dX4_advance_53 rfl (lv_at hl 0 rfl) ?_
    refine g_get (v := .int (X_X4_advance_8 pe tp tl)) S hK hP (hB0 0 _ rfl) rfl inX4 3 (by decide) qw86 rfl dX4_advance_54 ?_
    refine g_put S hK hP hD hS (hB0 0 _ rfl) rfl inX4 tyX4_ok nmX4 4 (by decide) qw87 rfl rfl rfl (Nat.le_of_ble_eq_true rfl) dX4_advance_57 (fun w2 H locs hw hP hD hS => ?_)
    have hF := Same.set hF 0 hw (by decide)
    have hB0 : Blk w2 k (cParser D α k pk (X_X4_advance_8 pe tp tl) (X_X4_advance_8 pe tp tl) tp tl dnums dbNames dpNames dfBoats dnB dnP) := hB0.set 0 hw (Nat.le_of_ble_eq_true rfl) rfl
    refine lv_aload_n S.1 S.2.1 dX4_advance_60 rfl (lv_at hl 0 rfl) ?_
    refine g_get (v := .ref (α (k + 1))) S hK hP (hB0 0 _ rfl) rfl inX4 0 (by decide) qw81 rfl dX4_advance_61 ?_
    refine lv_aload_n S.1 S.2.1 dX4_advance_64 rfl (lv_at hl 0 rfl) ?_
    refine g_get (v := .int (X_X4_advance_8 pe tp tl)) S hK hP (hB0 0 _ rfl) rfl inX4 3 (by decide) qw86 rfl dX4_advance_65 ?_
    refine g_aftR0 (st1 := [.int (f_X1_at 800 tp tl (X_X4_advance_8 pe tp tl))]) (g_V (As := [.int (X_X4_advance_8 pe tp tl)]) (rest := []) S mi_X1_at qw614 (c_X1_at l D A w2 α (k + 1) 800 tp tl (X_X4_advance_8 pe tp tl) (hB0.sub 1 rfl) (Nat.le_of_ble_eq_true rfl)) hK hP hD hE hS (hB0 1 _ rfl) rfl rfl rfl hl.1 (Nat.le_of_ble_eq_true rfl) rfl rfl ⟨(Nat.le_of_ble_eq_true rfl), (Nat.le_of_ble_eq_true rfl)⟩ ⟨(Nat.le_of_ble_eq_true rfl), (Nat.le_of_ble_eq_true rfl)⟩ dX4_advance_68) hS rfl (fun locs hS => ?_)
    refine g_aftR0 (st1 := [.int (b2i (f_X4_isLetter (f_X1_at 800 tp tl (X_X4_advance_8 pe tp tl))))]) (g_St (As := [.int (f_X1_at 800 tp tl (X_X4_advance_8 pe tp tl))]) (rest := []) S ms_X4_isLetter qw621 (c_X4_isLetter l D A w2 α (f_X1_at 800 tp tl (X_X4_advance_8 pe tp tl))) hK hP hD hE hS rfl rfl hl.1 (Nat.le_of_ble_eq_true rfl) rfl rfl ⟨(Nat.le_of_ble_eq_true rfl), (Nat.le_of_ble_eq_true rfl)⟩ ⟨(Nat.le_of_ble_eq_true rfl), (Nat.le_of_ble_eq_true rfl)⟩ dX4_advance_71) hS rfl (fun locs hS => ?_)
    refine g_bifeq (b := (f_X4_isLetter (f_X1_at 800 tp tl (X_X4_advance_8 pe tp tl)))) (tgt := 129) S dX4_advance_74 (by decide) (fun (c1 : (f_X4_isLetter (f_X1_at 800 tp tl (X_X4_advance_8 pe tp tl))) = false) => ?_) (fun (c1 : (f_X4_isLetter (f_X1_at 800 tp tl (X_X4_advance_8 pe tp tl))) = true) => ?_)
    · refine lv_aload_n S.1 S.2.1 dX4_advance_129 rfl (lv_at hl 0 rfl) ?_
      refine g_get (v := .ref (α (k + 1))) S hK hP (hB0 0 _ rfl) rfl inX4 0 (by decide) qw81 rfl dX4_advance_130 ?_
      refine lv_aload_n S.1 S.2.1 dX4_advance_133 rfl (lv_at hl 0 rfl) ?_
      refine g_get (v := .int (X_X4_advance_8 pe tp tl)) S hK hP (hB0 0 _ rfl) rfl inX4 3 (by decide) qw86 rfl dX4_advance_134 ?_
      refine g_aftR0 (st1 := [.int (f_X1_at 800 tp tl (X_X4_advance_8 pe tp tl))]) (g_V (As := [.int (X_X4_advance_8 pe tp tl)]) (rest := []) S mi_X1_at qw614 (c_X1_at l D A w2 α (k + 1) 800 tp tl (X_X4_advance_8 pe tp tl) (hB0.sub 1 rfl) (Nat.le_of_ble_eq_true rfl)) hK hP hD hE hS (hB0 1 _ rfl) rfl rfl rfl hl.1 (Nat.le_of_ble_eq_true rfl) rfl rfl ⟨(Nat.le_of_ble_eq_true rfl), (Nat.le_of_ble_eq_true rfl)⟩ ⟨(Nat.le_of_ble_eq_true rfl), (Nat.le_of_ble_eq_true rfl)⟩ dX4_advance_137) hS rfl (fun locs hS => ?_)
      refine g_aftR0 (st1 := [.int (b2i (f_X4_isDigit (f_X1_at 800 tp tl (X_X4_advance_8 pe tp tl))))]) (g_St (As := [.int (f_X1_at 800 tp tl (X_X4_advance_8 pe tp tl))]) (rest := []) S ms_X4_isDigit qw624 (c_X4_isDigit l D A w2 α (f_X1_at 800 tp tl (X_X4_advance_8 pe tp tl))) hK hP hD hE hS rfl rfl hl.1 (Nat.le_of_ble_eq_true rfl) rfl rfl ⟨(Nat.le_of_ble_eq_true rfl), (Nat.le_of_ble_eq_true rfl)⟩ ⟨(Nat.le_of_ble_eq_true rfl), (Nat.le_of_ble_eq_true rfl)⟩ dX4_advance_140) hS rfl (fun locs hS => ?_)
      refine g_bifeq (b := (f_X4_isDigit (f_X1_at 800 tp tl (X_X4_advance_8 pe tp tl)))) (tgt := 215) S dX4_advance_143 (by decide) (fun (c2 : (f_X4_isDigit (f_X1_at 800 tp tl (X_X4_advance_8 pe tp tl))) = false) => ?_) (fun (c2 : (f_X4_isDigit (f_X1_at 800 tp tl (X_X4_advance_8 pe tp tl))) = true) => ?_)
      · refine lv_aload_n S.1 S.2.1 dX4_advance_215 rfl (lv_at hl 0 rfl) ?_
        refine g_get (v := .int (X_X4_advance_8 pe tp tl)) S hK hP (hB0 0 _ rfl) rfl inX4 3 (by decide) qw86 rfl dX4_advance_216 ?_
        refine lv_aload_n S.1 S.2.1 dX4_advance_219 rfl (lv_at hl 0 rfl) ?_
        refine g_get (v := .ref (α (k + 1))) S hK hP (hB0 0 _ rfl) rfl inX4 0 (by decide) qw81 rfl dX4_advance_220 ?_
        refine g_aftR0 (st1 := [.int tl, .int (X_X4_advance_8 pe tp tl)]) (g_V (As := []) (rest := [.int (X_X4_advance_8 pe tp tl)]) S mi_X1_length qw613 (c_X1_length l D A w2 α (k + 1) 800 tp tl (hB0.sub 1 rfl)) hK hP hD hE hS (hB0 1 _ rfl) rfl rfl rfl hl.1 (Nat.le_of_ble_eq_true rfl) rfl rfl ⟨(Nat.le_of_ble_eq_true rfl), (Nat.le_of_ble_eq_true rfl)⟩ ⟨(Nat.le_of_ble_eq_true rfl), (Nat.le_of_ble_eq_true rfl)⟩ dX4_advance_223) hS rfl (fun locs hS => ?_)
        refine lv_icmp_lt (tgt := 237) S.1 S.2.1 dX4_advance_226 (by decide) (fun (c3 : (X_X4_advance_8 pe tp tl) < tl) => ?_) (fun (c3 : ¬ (X_X4_advance_8 pe tp tl) < tl) => ?_)
        · refine lv_aload_n S.1 S.2.1 dX4_advance_237 rfl (lv_at hl 0 rfl) ?_
          refine lv_aload_n S.1 S.2.1 dX4_advance_238 rfl (lv_at hl 0 rfl) ?_
          refine g_get (v := .ref (α (k + 1))) S hK hP (hB0 0 _ rfl) rfl inX4 0 (by decide) qw81 rfl dX4_advance_239 ?_
          refine lv_aload_n S.1 S.2.1 dX4_advance_242 rfl (lv_at hl 0 rfl) ?_
          refine g_get (v := .int (X_X4_advance_8 pe tp tl)) S hK hP (hB0 0 _ rfl) rfl inX4 3 (by decide) qw86 rfl dX4_advance_243 ?_
          refine g_aftR0 (st1 := [.int (f_X1_at 800 tp tl (X_X4_advance_8 pe tp tl)), .ref (α (k))]) (g_V (As := [.int (X_X4_advance_8 pe tp tl)]) (rest := [.ref (α (k))]) S mi_X1_at qw614 (c_X1_at l D A w2 α (k + 1) 800 tp tl (X_X4_advance_8 pe tp tl) (hB0.sub 1 rfl) (Nat.le_of_ble_eq_true rfl)) hK hP hD hE hS (hB0 1 _ rfl) rfl rfl rfl hl.1 (Nat.le_of_ble_eq_true rfl) rfl rfl ⟨(Nat.le_of_ble_eq_true rfl), (Nat.le_of_ble_eq_true rfl)⟩ ⟨(Nat.le_of_ble_eq_true rfl), (Nat.le_of_ble_eq_true rfl)⟩ dX4_advance_246) hS rfl (fun locs hS => ?_)
          refine lv_bipush (v := 59) S.1 S.2.1 dX4_advance_249 (by decide) ?_
          have jn251 : ∀ (wl : va_W) (H : Heap) (locs : List Loc) (ls : Array Slot), va_P D vwCl wl H → va_D A wl → va_S A s.heap H locs → Same w wl k 8 → Blk wl k (cParser D α k pk (X_X4_advance_8 pe tp tl) (X_X4_advance_8 pe tp tl) tp tl dnums dbNames dpNames dfBoats dnB dnP) → lv_has ls 1 [(0, .ref (α (k)))] → W pg l en ({ frames := 1, cells := 0, slots := 0, locals := 21 } : Room) s mi ar below me co H locs 0 0 (MQ below (gQ D A none (fun w1 => Blk w1 k (cParser D α k ((f_X4_advance pe tp tl).2.1) ((f_X4_advance pe tp tl).2.2) ((f_X4_advance pe tp tl).1) tp tl dnums dbNames dpNames dfBoats dnB dnP) ∧ Same w w1 k 8 ∧ (rd3 (f_X4_advance pe tp tl).2.2 (f_X4_advance pe tp tl).1 tl))) ar s 0 0 A) (F0 mi 259 ls [.int (J_X4_advance_251 pe tp tl), .ref (α (k))]) := by
            intro wl H locs ls hP hD hS hF hB0 hl
            refine g_put S hK hP hD hS (hB0 0 _ rfl) rfl inX4 tyX4_ok nmX4 2 (by decide) qw85 rfl rfl rfl (Nat.le_of_ble_eq_true rfl) dX4_advance_259 (fun w3 H locs hw hP hD hS => ?_)
            have hF := Same.set hF 0 hw (by decide)
            have hB0 : Blk w3 k (cParser D α k (J_X4_advance_251 pe tp tl) (X_X4_advance_8 pe tp tl) (X_X4_advance_8 pe tp tl) tp tl dnums dbNames dpNames dfBoats dnB dnP) := hB0.set 0 hw (Nat.le_of_ble_eq_true rfl) rfl
            refine lv_aload_n S.1 S.2.1 dX4_advance_262 rfl (lv_at hl 0 rfl) ?_
            refine lv_aload_n S.1 S.2.1 dX4_advance_263 rfl (lv_at hl 0 rfl) ?_
            refine g_get (v := .int (X_X4_advance_8 pe tp tl)) S hK hP (hB0 0 _ rfl) rfl inX4 3 (by decide) qw86 rfl dX4_advance_264 ?_
            refine lv_iconst (v := 1) S.1 S.2.1 dX4_advance_267 (by decide) ?_
            refine lv_iadd S.1 S.2.1 dX4_advance_268 ?_
            refine g_put S hK hP hD hS (hB0 0 _ rfl) rfl inX4 tyX4_ok nmX4 4 (by decide) qw87 rfl rfl rfl (Nat.le_of_ble_eq_true rfl) dX4_advance_269 (fun w4 H locs hw hP hD hS => ?_)
            have hF := Same.set hF 0 hw (by decide)
            have hB0 : Blk w4 k (cParser D α k (J_X4_advance_251 pe tp tl) (X_X4_advance_8 pe tp tl) ((X_X4_advance_8 pe tp tl) + 1) tp tl dnums dbNames dpNames dfBoats dnB dnP) := hB0.set 0 hw (Nat.le_of_ble_eq_true rfl) rfl
            have hf : (f_X4_advance pe tp tl) = (((X_X4_advance_8 pe tp tl) + 1), (J_X4_advance_251 pe tp tl), (X_X4_advance_8 pe tp tl)) := (cd_f c1).trans ((cd_f c2).trans (if_pos c3))
            exact g_vret S hr hlk hP hD hS (rfl) (⟨by rw [hf]; dsimp only; exact hB0, hF, by rw [hf]; (try dsimp only); exact rd3_s hpo c3⟩) dX4_advance_272
          refine lv_icmp_ne (tgt := 258) S.1 S.2.1 dX4_advance_251 (by decide) (fun (c4 : ¬ (f_X1_at 800 tp tl (X_X4_advance_8 pe tp tl)) = 59) => ?_) (fun (c4 : (f_X1_at 800 tp tl (X_X4_advance_8 pe tp tl)) = 59) => ?_)
          · refine lv_iconst (v := 4) S.1 S.2.1 dX4_advance_258 (by decide) ?_
            have hJ : (J_X4_advance_251 pe tp tl) = 4 := if_neg c4
            have qj := jn251
            rw [hJ] at qj
            exact qj _ _ _ _ hP hD hS hF hB0 (lv_sub hl [0] rfl)
          · refine lv_iconst (v := 3) S.1 S.2.1 dX4_advance_254 (by decide) ?_
            refine lv_goto (tgt := 259) S.1 S.2.1 dX4_advance_255 (by decide) ?_
            have hJ : (J_X4_advance_251 pe tp tl) = 3 := if_pos c4
            have qj := jn251
            rw [hJ] at qj
            exact qj _ _ _ _ hP hD hS hF hB0 (lv_sub hl [0] rfl)
        · refine lv_aload_n S.1 S.2.1 dX4_advance_229 rfl (lv_at hl 0 rfl) ?_
          refine lv_iconst (v := 0) S.1 S.2.1 dX4_advance_230 (by decide) ?_
          refine g_put S hK hP hD hS (hB0 0 _ rfl) rfl inX4 tyX4_ok nmX4 2 (by decide) qw85 rfl rfl rfl (Nat.le_of_ble_eq_true rfl) dX4_advance_231 (fun w5 H locs hw hP hD hS => ?_)
          have hF := Same.set hF 0 hw (by decide)
          have hB0 : Blk w5 k (cParser D α k 0 (X_X4_advance_8 pe tp tl) (X_X4_advance_8 pe tp tl) tp tl dnums dbNames dpNames dfBoats dnB dnP) := hB0.set 0 hw (Nat.le_of_ble_eq_true rfl) rfl
          refine lv_goto (tgt := 272) S.1 S.2.1 dX4_advance_234 (by decide) ?_
          have hf : (f_X4_advance pe tp tl) = ((X_X4_advance_8 pe tp tl), 0, (X_X4_advance_8 pe tp tl)) := (cd_f c1).trans ((cd_f c2).trans (if_neg c3))
          exact g_vret S hr hlk hP hD hS (rfl) (⟨by rw [hf]; dsimp only; exact hB0, hF, by rw [hf]; (try dsimp only); exact rd3_e hpo⟩) dX4_advance_272
      · have jw146 : (rd3 (X_X4_advance_8 pe tp tl) (X_X4_advance_146 pe tp tl) tl) → ∀ (wl : va_W) (H : Heap) (locs : List Loc) (ls : Array Slot), va_P D vwCl wl H → va_D A wl → va_S A s.heap H locs → Same w wl k 8 → Blk wl k (cParser D α k pk (X_X4_advance_8 pe tp tl) (X_X4_advance_146 pe tp tl) tp tl dnums dbNames dpNames dfBoats dnB dnP) → lv_has ls 1 [(0, .ref (α (k)))] → W pg l en ({ frames := 1, cells := 0, slots := 0, locals := 21 } : Room) s mi ar below me co H locs 0 0 (MQ below (gQ D A none (fun w1 => Blk w1 k (cParser D α k ((f_X4_advance pe tp tl).2.1) ((f_X4_advance pe tp tl).2.2) ((f_X4_advance pe tp tl).1) tp tl dnums dbNames dpNames dfBoats dnB dnP) ∧ Same w w1 k 8 ∧ (rd3 (f_X4_advance pe tp tl).2.2 (f_X4_advance pe tp tl).1 tl))) ar s 0 0 A) (F0 mi 190 ls []) := by
          intro hpo wl H locs ls hP hD hS hF hB0 hl
          refine lv_aload_n S.1 S.2.1 dX4_advance_190 rfl (lv_at hl 0 rfl) ?_
          refine lv_aload_n S.1 S.2.1 dX4_advance_191 rfl (lv_at hl 0 rfl) ?_
          refine g_get (v := .int (X_X4_advance_146 pe tp tl)) S hK hP (hB0 0 _ rfl) rfl inX4 4 (by decide) qw87 rfl dX4_advance_192 ?_
          refine lv_aload_n S.1 S.2.1 dX4_advance_195 rfl (lv_at hl 0 rfl) ?_
          refine g_get (v := .int (X_X4_advance_8 pe tp tl)) S hK hP (hB0 0 _ rfl) rfl inX4 3 (by decide) qw86 rfl dX4_advance_196 ?_
          refine lv_isub S.1 S.2.1 dX4_advance_199 ?_
          refine lv_iconst (v := 3) S.1 S.2.1 dX4_advance_200 (by decide) ?_
          have jn201 : ∀ (wl : va_W) (H : Heap) (locs : List Loc) (ls : Array Slot), va_P D vwCl wl H → va_D A wl → va_S A s.heap H locs → Same w wl k 8 → Blk wl k (cParser D α k pk (X_X4_advance_8 pe tp tl) (X_X4_advance_146 pe tp tl) tp tl dnums dbNames dpNames dfBoats dnB dnP) → lv_has ls 1 [(0, .ref (α (k)))] → W pg l en ({ frames := 1, cells := 0, slots := 0, locals := 21 } : Room) s mi ar below me co H locs 0 0 (MQ below (gQ D A none (fun w1 => Blk w1 k (cParser D α k ((f_X4_advance pe tp tl).2.1) ((f_X4_advance pe tp tl).2.2) ((f_X4_advance pe tp tl).1) tp tl dnums dbNames dpNames dfBoats dnB dnP) ∧ Same w w1 k 8 ∧ (rd3 (f_X4_advance pe tp tl).2.2 (f_X4_advance pe tp tl).1 tl))) ar s 0 0 A) (F0 mi 209 ls [.int (J_X4_advance_201 pe tp tl), .ref (α (k))]) := by
            intro wl H locs ls hP hD hS hF hB0 hl
            refine g_put S hK hP hD hS (hB0 0 _ rfl) rfl inX4 tyX4_ok nmX4 2 (by decide) qw85 rfl rfl rfl (Nat.le_of_ble_eq_true rfl) dX4_advance_209 (fun w6 H locs hw hP hD hS => ?_)
            have hF := Same.set hF 0 hw (by decide)
            have hB0 : Blk w6 k (cParser D α k (J_X4_advance_201 pe tp tl) (X_X4_advance_8 pe tp tl) (X_X4_advance_146 pe tp tl) tp tl dnums dbNames dpNames dfBoats dnB dnP) := hB0.set 0 hw (Nat.le_of_ble_eq_true rfl) rfl
            refine lv_goto (tgt := 272) S.1 S.2.1 dX4_advance_212 (by decide) ?_
            have hf : (f_X4_advance pe tp tl) = ((X_X4_advance_146 pe tp tl), (J_X4_advance_201 pe tp tl), (X_X4_advance_8 pe tp tl)) := (cd_f c1).trans (cd_t c2)
            exact g_vret S hr hlk hP hD hS (rfl) (⟨by rw [hf]; dsimp only; exact hB0, hF, by rw [hf]; (try dsimp only); exact hpo⟩) dX4_advance_272
          refine lv_icmp_gt (tgt := 208) S.1 S.2.1 dX4_advance_201 (by decide) (fun (c5 : 3 < ((X_X4_advance_146 pe tp tl) - (X_X4_advance_8 pe tp tl))) => ?_) (fun (c5 : ¬ 3 < ((X_X4_advance_146 pe tp tl) - (X_X4_advance_8 pe tp tl))) => ?_)
          · refine lv_iconst (v := 4) S.1 S.2.1 dX4_advance_208 (by decide) ?_
            have hJ : (J_X4_advance_201 pe tp tl) = 4 := if_pos c5
            have qj := jn201
            rw [hJ] at qj
            exact qj _ _ _ _ hP hD hS hF hB0 (lv_sub hl [0] rfl)
          · refine lv_iconst (v := 2) S.1 S.2.1 dX4_advance_204 (by decide) ?_
            refine lv_goto (tgt := 209) S.1 S.2.1 dX4_advance_205 (by decide) ?_
            have hJ : (J_X4_advance_201 pe tp tl) = 2 := if_neg c5
            have qj := jn201
            rw [hJ] at qj
            exact qj _ _ _ _ hP hD hS hF hB0 (lv_sub hl [0] rfl)
        have lw146 : ∀ (n : Nat) (sw146 : Int32), (rdm n (X_X4_advance_8 pe tp tl) sw146 tl) → (X_X4_advance_146 pe tp tl) = whl_ (T_X4_advance_146 tp tl) n sw146 → ∀ (wl : va_W) (H : Heap) (locs : List Loc) (ls : Array Slot), va_P D vwCl wl H → va_D A wl → va_S A s.heap H locs → Same w wl k 8 → Blk wl k (cParser D α k pk (X_X4_advance_8 pe tp tl) sw146 tp tl dnums dbNames dpNames dfBoats dnB dnP) → lv_has ls 1 [(0, .ref (α (k)))] → W pg l en ({ frames := 1, cells := 0, slots := 0, locals := 21 } : Room) s mi ar below me co H locs 0 0 (MQ below (gQ D A none (fun w1 => Blk w1 k (cParser D α k ((f_X4_advance pe tp tl).2.1) ((f_X4_advance pe tp tl).2.2) ((f_X4_advance pe tp tl).1) tp tl dnums dbNames dpNames dfBoats dnB dnP) ∧ Same w w1 k 8 ∧ (rd3 (f_X4_advance pe tp tl).2.2 (f_X4_advance pe tp tl).1 tl))) ar s 0 0 A) (F0 mi 146 ls []) := by
          intro n
          induction n with
          | zero => intro sw146 hi; exact absurd hi (rdm_0)
          | succ n ih =>
            intro sw146 hi hx wl H locs ls hP hD hS hF hB0 hl
            refine lv_aload_n S.1 S.2.1 dX4_advance_146 rfl (lv_at hl 0 rfl) ?_
            refine g_get (v := .int sw146) S hK hP (hB0 0 _ rfl) rfl inX4 4 (by decide) qw87 rfl dX4_advance_147 ?_
            refine lv_aload_n S.1 S.2.1 dX4_advance_150 rfl (lv_at hl 0 rfl) ?_
            refine g_get (v := .ref (α (k + 1))) S hK hP (hB0 0 _ rfl) rfl inX4 0 (by decide) qw81 rfl dX4_advance_151 ?_
            refine g_aftR0 (st1 := [.int tl, .int sw146]) (g_V (As := []) (rest := [.int sw146]) S mi_X1_length qw613 (c_X1_length l D A wl α (k + 1) 800 tp tl (hB0.sub 1 rfl)) hK hP hD hE hS (hB0 1 _ rfl) rfl rfl rfl hl.1 (Nat.le_of_ble_eq_true rfl) rfl rfl ⟨(Nat.le_of_ble_eq_true rfl), (Nat.le_of_ble_eq_true rfl)⟩ ⟨(Nat.le_of_ble_eq_true rfl), (Nat.le_of_ble_eq_true rfl)⟩ dX4_advance_154) hS rfl (fun locs hS => ?_)
            refine lv_icmp_ge (tgt := 190) S.1 S.2.1 dX4_advance_157 (by decide) (fun (c6 : tl ≤ sw146) => ?_) (fun (c6 : ¬ tl ≤ sw146) => ?_)
            · skip
              have hT : (T_X4_advance_146 tp tl) sw146 = .inr sw146 := if_pos c6
              have hX := hx.trans (whl_o hT)
              have qj := jw146
              rw [hX] at qj
              (try dsimp only at qj)
              exact qj (rdm_rd hi) _ _ _ _ hP hD hS hF hB0 (lv_sub hl [0] rfl)
            · refine lv_aload_n S.1 S.2.1 dX4_advance_160 rfl (lv_at hl 0 rfl) ?_
              refine g_get (v := .ref (α (k + 1))) S hK hP (hB0 0 _ rfl) rfl inX4 0 (by decide) qw81 rfl dX4_advance_161 ?_
              refine lv_aload_n S.1 S.2.1 dX4_advance_164 rfl (lv_at hl 0 rfl) ?_
              refine g_get (v := .int sw146) S hK hP (hB0 0 _ rfl) rfl inX4 4 (by decide) qw87 rfl dX4_advance_165 ?_
              refine g_aftR0 (st1 := [.int (f_X1_at 800 tp tl sw146)]) (g_V (As := [.int sw146]) (rest := []) S mi_X1_at qw614 (c_X1_at l D A wl α (k + 1) 800 tp tl sw146 (hB0.sub 1 rfl) (Nat.le_of_ble_eq_true rfl)) hK hP hD hE hS (hB0 1 _ rfl) rfl rfl rfl hl.1 (Nat.le_of_ble_eq_true rfl) rfl rfl ⟨(Nat.le_of_ble_eq_true rfl), (Nat.le_of_ble_eq_true rfl)⟩ ⟨(Nat.le_of_ble_eq_true rfl), (Nat.le_of_ble_eq_true rfl)⟩ dX4_advance_168) hS rfl (fun locs hS => ?_)
              refine g_aftR0 (st1 := [.int (b2i (f_X4_isDigit (f_X1_at 800 tp tl sw146)))]) (g_St (As := [.int (f_X1_at 800 tp tl sw146)]) (rest := []) S ms_X4_isDigit qw624 (c_X4_isDigit l D A wl α (f_X1_at 800 tp tl sw146)) hK hP hD hE hS rfl rfl hl.1 (Nat.le_of_ble_eq_true rfl) rfl rfl ⟨(Nat.le_of_ble_eq_true rfl), (Nat.le_of_ble_eq_true rfl)⟩ ⟨(Nat.le_of_ble_eq_true rfl), (Nat.le_of_ble_eq_true rfl)⟩ dX4_advance_171) hS rfl (fun locs hS => ?_)
              refine g_bifeq (b := (f_X4_isDigit (f_X1_at 800 tp tl sw146))) (tgt := 190) S dX4_advance_174 (by decide) (fun (c7 : (f_X4_isDigit (f_X1_at 800 tp tl sw146)) = false) => ?_) (fun (c7 : (f_X4_isDigit (f_X1_at 800 tp tl sw146)) = true) => ?_)
              · skip
                have hT : (T_X4_advance_146 tp tl) sw146 = .inr sw146 := (if_neg c6).trans (cd_f c7)
                have hX := hx.trans (whl_o hT)
                have qj := jw146
                rw [hX] at qj
                (try dsimp only at qj)
                exact qj (rdm_rd hi) _ _ _ _ hP hD hS hF hB0 (lv_sub hl [0] rfl)
              · refine lv_aload_n S.1 S.2.1 dX4_advance_177 rfl (lv_at hl 0 rfl) ?_
                refine lv_dup S.1 S.2.1 dX4_advance_178 rfl ?_
                refine g_get (v := .int sw146) S hK hP (hB0 0 _ rfl) rfl inX4 4 (by decide) qw87 rfl dX4_advance_179 ?_
                refine lv_iconst (v := 1) S.1 S.2.1 dX4_advance_182 (by decide) ?_
                refine lv_iadd S.1 S.2.1 dX4_advance_183 ?_
                refine g_put S hK hP hD hS (hB0 0 _ rfl) rfl inX4 tyX4_ok nmX4 4 (by decide) qw87 rfl rfl rfl (Nat.le_of_ble_eq_true rfl) dX4_advance_184 (fun w7 H locs hw hP hD hS => ?_)
                have hF := Same.set hF 0 hw (by decide)
                have hB0 : Blk w7 k (cParser D α k pk (X_X4_advance_8 pe tp tl) (sw146 + 1) tp tl dnums dbNames dpNames dfBoats dnB dnP) := hB0.set 0 hw (Nat.le_of_ble_eq_true rfl) rfl
                refine lv_goto (tgt := 146) S.1 S.2.1 dX4_advance_187 (by decide) ?_
                have hT : (T_X4_advance_146 tp tl) sw146 = .inl (sw146 + 1) := (if_neg c6).trans (cd_t c7)
                have qi := ih (sw146 + 1)
                (try dsimp only at qi)
                exact qi (rdm_s hi c6) (hx.trans (whl_i hT)) _ _ _ _ hP hD hS hF hB0 (lv_sub hl [0] rfl)
        have qs := lw146 801 (X_X4_advance_8 pe tp tl)
        (try dsimp only at qs)
        exact qs (rdm_of hpo) rfl _ _ _ _ hP hD hS hF hB0 (lv_sub hl [0] rfl)
    · have jw77 : (rd3 (X_X4_advance_8 pe tp tl) (X_X4_advance_77 pe tp tl) tl) → ∀ (wl : va_W) (H : Heap) (locs : List Loc) (ls : Array Slot), va_P D vwCl wl H → va_D A wl → va_S A s.heap H locs → Same w wl k 8 → Blk wl k (cParser D α k pk (X_X4_advance_8 pe tp tl) (X_X4_advance_77 pe tp tl) tp tl dnums dbNames dpNames dfBoats dnB dnP) → lv_has ls 1 [(0, .ref (α (k)))] → W pg l en ({ frames := 1, cells := 0, slots := 0, locals := 21 } : Room) s mi ar below me co H locs 0 0 (MQ below (gQ D A none (fun w1 => Blk w1 k (cParser D α k ((f_X4_advance pe tp tl).2.1) ((f_X4_advance pe tp tl).2.2) ((f_X4_advance pe tp tl).1) tp tl dnums dbNames dpNames dfBoats dnB dnP) ∧ Same w w1 k 8 ∧ (rd3 (f_X4_advance pe tp tl).2.2 (f_X4_advance pe tp tl).1 tl))) ar s 0 0 A) (F0 mi 121 ls []) := by
        intro hpo wl H locs ls hP hD hS hF hB0 hl
        refine lv_aload_n S.1 S.2.1 dX4_advance_121 rfl (lv_at hl 0 rfl) ?_
        refine lv_iconst (v := 1) S.1 S.2.1 dX4_advance_122 (by decide) ?_
        refine g_put S hK hP hD hS (hB0 0 _ rfl) rfl inX4 tyX4_ok nmX4 2 (by decide) qw85 rfl rfl rfl (Nat.le_of_ble_eq_true rfl) dX4_advance_123 (fun w8 H locs hw hP hD hS => ?_)
        have hF := Same.set hF 0 hw (by decide)
        have hB0 : Blk w8 k (cParser D α k 1 (X_X4_advance_8 pe tp tl) (X_X4_advance_77 pe tp tl) tp tl dnums dbNames dpNames dfBoats dnB dnP) := hB0.set 0 hw (Nat.le_of_ble_eq_true rfl) rfl
        refine lv_goto (tgt := 272) S.1 S.2.1 dX4_advance_126 (by decide) ?_
        have hf : (f_X4_advance pe tp tl) = ((X_X4_advance_77 pe tp tl), 1, (X_X4_advance_8 pe tp tl)) := cd_t c1
        exact g_vret S hr hlk hP hD hS (rfl) (⟨by rw [hf]; dsimp only; exact hB0, hF, by rw [hf]; (try dsimp only); exact hpo⟩) dX4_advance_272
      have lw77 : ∀ (n : Nat) (sw77 : Int32), (rdm n (X_X4_advance_8 pe tp tl) sw77 tl) → (X_X4_advance_77 pe tp tl) = whl_ (T_X4_advance_77 tp tl) n sw77 → ∀ (wl : va_W) (H : Heap) (locs : List Loc) (ls : Array Slot), va_P D vwCl wl H → va_D A wl → va_S A s.heap H locs → Same w wl k 8 → Blk wl k (cParser D α k pk (X_X4_advance_8 pe tp tl) sw77 tp tl dnums dbNames dpNames dfBoats dnB dnP) → lv_has ls 1 [(0, .ref (α (k)))] → W pg l en ({ frames := 1, cells := 0, slots := 0, locals := 21 } : Room) s mi ar below me co H locs 0 0 (MQ below (gQ D A none (fun w1 => Blk w1 k (cParser D α k ((f_X4_advance pe tp tl).2.1) ((f_X4_advance pe tp tl).2.2) ((f_X4_advance pe tp tl).1) tp tl dnums dbNames dpNames dfBoats dnB dnP) ∧ Same w w1 k 8 ∧ (rd3 (f_X4_advance pe tp tl).2.2 (f_X4_advance pe tp tl).1 tl))) ar s 0 0 A) (F0 mi 77 ls []) := by
        intro n
        induction n with
        | zero => intro sw77 hi; exact absurd hi (rdm_0)
        | succ n ih =>
          intro sw77 hi hx wl H locs ls hP hD hS hF hB0 hl
          refine lv_aload_n S.1 S.2.1 dX4_advance_77 rfl (lv_at hl 0 rfl) ?_
          refine g_get (v := .int sw77) S hK hP (hB0 0 _ rfl) rfl inX4 4 (by decide) qw87 rfl dX4_advance_78 ?_
          refine lv_aload_n S.1 S.2.1 dX4_advance_81 rfl (lv_at hl 0 rfl) ?_
          refine g_get (v := .ref (α (k + 1))) S hK hP (hB0 0 _ rfl) rfl inX4 0 (by decide) qw81 rfl dX4_advance_82 ?_
          refine g_aftR0 (st1 := [.int tl, .int sw77]) (g_V (As := []) (rest := [.int sw77]) S mi_X1_length qw613 (c_X1_length l D A wl α (k + 1) 800 tp tl (hB0.sub 1 rfl)) hK hP hD hE hS (hB0 1 _ rfl) rfl rfl rfl hl.1 (Nat.le_of_ble_eq_true rfl) rfl rfl ⟨(Nat.le_of_ble_eq_true rfl), (Nat.le_of_ble_eq_true rfl)⟩ ⟨(Nat.le_of_ble_eq_true rfl), (Nat.le_of_ble_eq_true rfl)⟩ dX4_advance_85) hS rfl (fun locs hS => ?_)
          refine lv_icmp_ge (tgt := 121) S.1 S.2.1 dX4_advance_88 (by decide) (fun (c8 : tl ≤ sw77) => ?_) (fun (c8 : ¬ tl ≤ sw77) => ?_)
          · skip
            have hT : (T_X4_advance_77 tp tl) sw77 = .inr sw77 := if_pos c8
            have hX := hx.trans (whl_o hT)
            have qj := jw77
            rw [hX] at qj
            (try dsimp only at qj)
            exact qj (rdm_rd hi) _ _ _ _ hP hD hS hF hB0 (lv_sub hl [0] rfl)
          · refine lv_aload_n S.1 S.2.1 dX4_advance_91 rfl (lv_at hl 0 rfl) ?_
            refine g_get (v := .ref (α (k + 1))) S hK hP (hB0 0 _ rfl) rfl inX4 0 (by decide) qw81 rfl dX4_advance_92 ?_
            refine lv_aload_n S.1 S.2.1 dX4_advance_95 rfl (lv_at hl 0 rfl) ?_
            refine g_get (v := .int sw77) S hK hP (hB0 0 _ rfl) rfl inX4 4 (by decide) qw87 rfl dX4_advance_96 ?_
            refine g_aftR0 (st1 := [.int (f_X1_at 800 tp tl sw77)]) (g_V (As := [.int sw77]) (rest := []) S mi_X1_at qw614 (c_X1_at l D A wl α (k + 1) 800 tp tl sw77 (hB0.sub 1 rfl) (Nat.le_of_ble_eq_true rfl)) hK hP hD hE hS (hB0 1 _ rfl) rfl rfl rfl hl.1 (Nat.le_of_ble_eq_true rfl) rfl rfl ⟨(Nat.le_of_ble_eq_true rfl), (Nat.le_of_ble_eq_true rfl)⟩ ⟨(Nat.le_of_ble_eq_true rfl), (Nat.le_of_ble_eq_true rfl)⟩ dX4_advance_99) hS rfl (fun locs hS => ?_)
            refine g_aftR0 (st1 := [.int (b2i (f_X4_isLetter (f_X1_at 800 tp tl sw77)))]) (g_St (As := [.int (f_X1_at 800 tp tl sw77)]) (rest := []) S ms_X4_isLetter qw621 (c_X4_isLetter l D A wl α (f_X1_at 800 tp tl sw77)) hK hP hD hE hS rfl rfl hl.1 (Nat.le_of_ble_eq_true rfl) rfl rfl ⟨(Nat.le_of_ble_eq_true rfl), (Nat.le_of_ble_eq_true rfl)⟩ ⟨(Nat.le_of_ble_eq_true rfl), (Nat.le_of_ble_eq_true rfl)⟩ dX4_advance_102) hS rfl (fun locs hS => ?_)
            refine g_bifeq (b := (f_X4_isLetter (f_X1_at 800 tp tl sw77))) (tgt := 121) S dX4_advance_105 (by decide) (fun (c9 : (f_X4_isLetter (f_X1_at 800 tp tl sw77)) = false) => ?_) (fun (c9 : (f_X4_isLetter (f_X1_at 800 tp tl sw77)) = true) => ?_)
            · skip
              have hT : (T_X4_advance_77 tp tl) sw77 = .inr sw77 := (if_neg c8).trans (cd_f c9)
              have hX := hx.trans (whl_o hT)
              have qj := jw77
              rw [hX] at qj
              (try dsimp only at qj)
              exact qj (rdm_rd hi) _ _ _ _ hP hD hS hF hB0 (lv_sub hl [0] rfl)
            · refine lv_aload_n S.1 S.2.1 dX4_advance_108 rfl (lv_at hl 0 rfl) ?_
              refine lv_dup S.1 S.2.1 dX4_advance_109 rfl ?_
              refine g_get (v := .int sw77) S hK hP (hB0 0 _ rfl) rfl inX4 4 (by decide) qw87 rfl dX4_advance_110 ?_
              refine lv_iconst (v := 1) S.1 S.2.1 dX4_advance_113 (by decide) ?_
              refine lv_iadd S.1 S.2.1 dX4_advance_114 ?_
              refine g_put S hK hP hD hS (hB0 0 _ rfl) rfl inX4 tyX4_ok nmX4 4 (by decide) qw87 rfl rfl rfl (Nat.le_of_ble_eq_true rfl) dX4_advance_115 (fun w9 H locs hw hP hD hS => ?_)
              have hF := Same.set hF 0 hw (by decide)
              have hB0 : Blk w9 k (cParser D α k pk (X_X4_advance_8 pe tp tl) (sw77 + 1) tp tl dnums dbNames dpNames dfBoats dnB dnP) := hB0.set 0 hw (Nat.le_of_ble_eq_true rfl) rfl
              refine lv_goto (tgt := 77) S.1 S.2.1 dX4_advance_118 (by decide) ?_
              have hT : (T_X4_advance_77 tp tl) sw77 = .inl (sw77 + 1) := (if_neg c8).trans (cd_t c9)
              have qi := ih (sw77 + 1)
              (try dsimp only at qi)
              exact qi (rdm_s hi c8) (hx.trans (whl_i hT)) _ _ _ _ hP hD hS hF hB0 (lv_sub hl [0] rfl)
      have qs := lw77 801 (X_X4_advance_8 pe tp tl)
      (try dsimp only at qs)
      exact qs (rdm_of hpo) rfl _ _ _ _ hP hD hS hF hB0 (lv_sub hl [0] rfl)
  have lw8 : ∀ (n : Nat) (sw8 : Int32), (rdn n sw8 tl) → (X_X4_advance_8 pe tp tl) = whl_ (T_X4_advance_8 tp tl) n sw8 → ∀ (wl : va_W) (H : Heap) (locs : List Loc) (ls : Array Slot), va_P D vwCl wl H → va_D A wl → va_S A s.heap H locs → Same w wl k 8 → Blk wl k (cParser D α k pk sw8 pe tp tl dnums dbNames dpNames dfBoats dnB dnP) → lv_has ls 1 [(0, .ref (α (k)))] → W pg l en ({ frames := 1, cells := 0, slots := 0, locals := 21 } : Room) s mi ar below me co H locs 0 0 (MQ below (gQ D A none (fun w1 => Blk w1 k (cParser D α k ((f_X4_advance pe tp tl).2.1) ((f_X4_advance pe tp tl).2.2) ((f_X4_advance pe tp tl).1) tp tl dnums dbNames dpNames dfBoats dnB dnP) ∧ Same w w1 k 8 ∧ (rd3 (f_X4_advance pe tp tl).2.2 (f_X4_advance pe tp tl).1 tl))) ar s 0 0 A) (F0 mi 8 ls []) := by
    intro n
    induction n with
    | zero => intro sw8 hi; exact absurd hi (rdn_0)
    | succ n ih =>
      intro sw8 hi hx wl H locs ls hP hD hS hF hB0 hl
      refine lv_aload_n S.1 S.2.1 dX4_advance_8 rfl (lv_at hl 0 rfl) ?_
      refine g_get (v := .int sw8) S hK hP (hB0 0 _ rfl) rfl inX4 3 (by decide) qw86 rfl dX4_advance_9 ?_
      refine lv_aload_n S.1 S.2.1 dX4_advance_12 rfl (lv_at hl 0 rfl) ?_
      refine g_get (v := .ref (α (k + 1))) S hK hP (hB0 0 _ rfl) rfl inX4 0 (by decide) qw81 rfl dX4_advance_13 ?_
      refine g_aftR0 (st1 := [.int tl, .int sw8]) (g_V (As := []) (rest := [.int sw8]) S mi_X1_length qw613 (c_X1_length l D A wl α (k + 1) 800 tp tl (hB0.sub 1 rfl)) hK hP hD hE hS (hB0 1 _ rfl) rfl rfl rfl hl.1 (Nat.le_of_ble_eq_true rfl) rfl rfl ⟨(Nat.le_of_ble_eq_true rfl), (Nat.le_of_ble_eq_true rfl)⟩ ⟨(Nat.le_of_ble_eq_true rfl), (Nat.le_of_ble_eq_true rfl)⟩ dX4_advance_16) hS rfl (fun locs hS => ?_)
      refine lv_icmp_ge (tgt := 52) S.1 S.2.1 dX4_advance_19 (by decide) (fun (c10 : tl ≤ sw8) => ?_) (fun (c10 : ¬ tl ≤ sw8) => ?_)
      · skip
        have hT : (T_X4_advance_8 tp tl) sw8 = .inr sw8 := if_pos c10
        have hX := hx.trans (whl_o hT)
        have qj := jw8
        rw [hX] at qj
        (try dsimp only at qj)
        exact qj (rdn_rd hi) _ _ _ _ hP hD hS hF hB0 (lv_sub hl [0] rfl)
      · refine lv_aload_n S.1 S.2.1 dX4_advance_22 rfl (lv_at hl 0 rfl) ?_
        refine g_get (v := .ref (α (k + 1))) S hK hP (hB0 0 _ rfl) rfl inX4 0 (by decide) qw81 rfl dX4_advance_23 ?_
        refine lv_aload_n S.1 S.2.1 dX4_advance_26 rfl (lv_at hl 0 rfl) ?_
        refine g_get (v := .int sw8) S hK hP (hB0 0 _ rfl) rfl inX4 3 (by decide) qw86 rfl dX4_advance_27 ?_
        refine g_aftR0 (st1 := [.int (f_X1_at 800 tp tl sw8)]) (g_V (As := [.int sw8]) (rest := []) S mi_X1_at qw614 (c_X1_at l D A wl α (k + 1) 800 tp tl sw8 (hB0.sub 1 rfl) (Nat.le_of_ble_eq_true rfl)) hK hP hD hE hS (hB0 1 _ rfl) rfl rfl rfl hl.1 (Nat.le_of_ble_eq_true rfl) rfl rfl ⟨(Nat.le_of_ble_eq_true rfl), (Nat.le_of_ble_eq_true rfl)⟩ ⟨(Nat.le_of_ble_eq_true rfl), (Nat.le_of_ble_eq_true rfl)⟩ dX4_advance_30) hS rfl (fun locs hS => ?_)
        refine g_aftR0 (st1 := [.int (b2i (f_X4_isSpace (f_X1_at 800 tp tl sw8)))]) (g_St (As := [.int (f_X1_at 800 tp tl sw8)]) (rest := []) S ms_X4_isSpace qw618 (c_X4_isSpace l D A wl α (f_X1_at 800 tp tl sw8)) hK hP hD hE hS rfl rfl hl.1 (Nat.le_of_ble_eq_true rfl) rfl rfl ⟨(Nat.le_of_ble_eq_true rfl), (Nat.le_of_ble_eq_true rfl)⟩ ⟨(Nat.le_of_ble_eq_true rfl), (Nat.le_of_ble_eq_true rfl)⟩ dX4_advance_33) hS rfl (fun locs hS => ?_)
        refine g_bifeq (b := (f_X4_isSpace (f_X1_at 800 tp tl sw8))) (tgt := 52) S dX4_advance_36 (by decide) (fun (c11 : (f_X4_isSpace (f_X1_at 800 tp tl sw8)) = false) => ?_) (fun (c11 : (f_X4_isSpace (f_X1_at 800 tp tl sw8)) = true) => ?_)
        · skip
          have hT : (T_X4_advance_8 tp tl) sw8 = .inr sw8 := (if_neg c10).trans (cd_f c11)
          have hX := hx.trans (whl_o hT)
          have qj := jw8
          rw [hX] at qj
          (try dsimp only at qj)
          exact qj (rdn_rd hi) _ _ _ _ hP hD hS hF hB0 (lv_sub hl [0] rfl)
        · refine lv_aload_n S.1 S.2.1 dX4_advance_39 rfl (lv_at hl 0 rfl) ?_
          refine lv_dup S.1 S.2.1 dX4_advance_40 rfl ?_
          refine g_get (v := .int sw8) S hK hP (hB0 0 _ rfl) rfl inX4 3 (by decide) qw86 rfl dX4_advance_41 ?_
          refine lv_iconst (v := 1) S.1 S.2.1 dX4_advance_44 (by decide) ?_
          refine lv_iadd S.1 S.2.1 dX4_advance_45 ?_
          refine g_put S hK hP hD hS (hB0 0 _ rfl) rfl inX4 tyX4_ok nmX4 3 (by decide) qw86 rfl rfl rfl (Nat.le_of_ble_eq_true rfl) dX4_advance_46 (fun w10 H locs hw hP hD hS => ?_)
          have hF := Same.set hF 0 hw (by decide)
          have hB0 : Blk w10 k (cParser D α k pk (sw8 + 1) pe tp tl dnums dbNames dpNames dfBoats dnB dnP) := hB0.set 0 hw (Nat.le_of_ble_eq_true rfl) rfl
          refine lv_goto (tgt := 8) S.1 S.2.1 dX4_advance_49 (by decide) ?_
          have hT : (T_X4_advance_8 tp tl) sw8 = .inl (sw8 + 1) := (if_neg c10).trans (cd_t c11)
          have qi := ih (sw8 + 1)
          (try dsimp only at qi)
          exact qi (rdn_s hi c10) (hx.trans (whl_i hT)) _ _ _ _ hP hD hS hF hB0 (lv_sub hl [0] rfl)
  have qs := lw8 801 pe
  (try dsimp only at qs)
  exact qs (rdn_of hy0) rfl _ _ _ _ hP hD hS hF hB0 (lv_sub hl [0] rfl)
