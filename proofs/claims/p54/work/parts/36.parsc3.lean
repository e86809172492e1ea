noncomputable def f_X4_isAnyKeyword (pst : Int32) (pe : Int32) (tp : Nat → Int32) (tl : Int32) : Bool := (bif (f_X4_reads pst pe tp tl 0) then true else (bif (f_X4_reads pst pe tp tl 1) then true else (bif (f_X4_reads pst pe tp tl 2) then true else (bif (f_X4_reads pst pe tp tl 3) then true else (bif (f_X4_reads pst pe tp tl 4) then true else (bif (f_X4_reads pst pe tp tl 5) then true else (bif (f_X4_reads pst pe tp tl 6) then true else (bif (f_X4_reads pst pe tp tl 7) then true else (bif (f_X4_reads pst pe tp tl 8) then true else (bif (f_X4_reads pst pe tp tl 9) then true else false))))))))))
set_option maxHeartbeats 4000000 in
set_option maxRecDepth 100000 in
theorem c_X4_isAnyKeyword (l : Launch) (D : va_G) (A : Nat → Prop) (w : va_W) (α : Nat → Nat) (k : Nat) (pk : Int32) (pst : Int32) (pe : Int32) (tp : Nat → Int32) (tl : Int32) (dnums : Nat → Int32) (dbNames : Nat → Int32) (dpNames : Nat → Int32) (dfBoats : Nat → Int32) (dnB : Int32) (dnP : Int32) (hB0 : Blk w k (cParser D α k pk pst pe tp tl dnums dbNames dpNames dfBoats dnB dnP)) : Met l yX4_isAnyKeyword (ws_ yX4_isAnyKeyword cX4_isAnyKeyword 1 (some .boolean)) ({ frames := 5, cells := 0, slots := 0, locals := 107 }) (gPre D A [.ref (α (k))] w) (gR (some (.int (b2i (f_X4_isAnyKeyword pst pe tp tl))))) 0 0 A := by
  refine g_met [(0, .ref (α (k)))] (plainFor_of_name (by decide)) (Nat.le_of_ble_eq_true rfl) rfl (fun pg en s mi ar below me co ls S hK hP hD hE hS hr hlk hnm hl => ?_)
  refine lv_aload_n S.1 S.2.1 dX4_isAnyKeyword_0 rfl (lv_at hl 0 rfl) ?_
  refine va_ldcS (own := RX4) (q := D.2 200 0) S.1 S.2.1 S.2.2.2.1 (ldS_0 hE) dX4_isAnyKeyword_1 ?_
  refine g_aftR0 (st1 := [.int (b2i (f_X4_reads pst pe tp tl 0))]) (g_V (As := [.ref (D.2 200 0)]) (rest := []) S mi_X4_reads qw640 (c_X4_reads l D A w α (k) pk pst pe tp tl dnums dbNames dpNames dfBoats dnB dnP 0 hB0 (by decide)) hK hP hD hE hS (hB0 0 _ rfl) rfl rfl rfl hl.1 (Nat.le_of_ble_eq_true rfl) rfl rfl ⟨(Nat.le_of_ble_eq_true rfl), (Nat.le_of_ble_eq_true rfl)⟩ ⟨(Nat.le_of_ble_eq_true rfl), (Nat.le_of_ble_eq_true rfl)⟩ dX4_isAnyKeyword_3) hS rfl (fun locs hS => ?_)
  refine g_bifne (b := (f_X4_reads pst pe tp tl 0)) (tgt := 90) S dX4_isAnyKeyword_6 (by decide) (fun (c1 : (f_X4_reads pst pe tp tl 0) = true) => ?_) (fun (c1 : (f_X4_reads pst pe tp tl 0) = false) => ?_)
  · refine lv_iconst (v := 1) S.1 S.2.1 dX4_isAnyKeyword_90 (by decide) ?_
    refine lv_goto (tgt := 95) S.1 S.2.1 dX4_isAnyKeyword_91 (by decide) ?_
    have hf : (f_X4_isAnyKeyword pst pe tp tl) = true := cd_t c1
    exact g_zretR S hr hlk hS rfl (by rw [hf] <;> rfl) dX4_isAnyKeyword_95
  · refine lv_aload_n S.1 S.2.1 dX4_isAnyKeyword_9 rfl (lv_at hl 0 rfl) ?_
    refine va_ldcS (own := RX4) (q := D.2 200 1) S.1 S.2.1 S.2.2.2.1 (ldS_1 hE) dX4_isAnyKeyword_10 ?_
    refine g_aftR0 (st1 := [.int (b2i (f_X4_reads pst pe tp tl 1))]) (g_V (As := [.ref (D.2 200 1)]) (rest := []) S mi_X4_reads qw640 (c_X4_reads l D A w α (k) pk pst pe tp tl dnums dbNames dpNames dfBoats dnB dnP 1 hB0 (by decide)) hK hP hD hE hS (hB0 0 _ rfl) rfl rfl rfl hl.1 (Nat.le_of_ble_eq_true rfl) rfl rfl ⟨(Nat.le_of_ble_eq_true rfl), (Nat.le_of_ble_eq_true rfl)⟩ ⟨(Nat.le_of_ble_eq_true rfl), (Nat.le_of_ble_eq_true rfl)⟩ dX4_isAnyKeyword_12) hS rfl (fun locs hS => ?_)
    refine g_bifne (b := (f_X4_reads pst pe tp tl 1)) (tgt := 90) S dX4_isAnyKeyword_15 (by decide) (fun (c2 : (f_X4_reads pst pe tp tl 1) = true) => ?_) (fun (c2 : (f_X4_reads pst pe tp tl 1) = false) => ?_)
    · refine lv_iconst (v := 1) S.1 S.2.1 dX4_isAnyKeyword_90 (by decide) ?_
      refine lv_goto (tgt := 95) S.1 S.2.1 dX4_isAnyKeyword_91 (by decide) ?_
      have hf : (f_X4_isAnyKeyword pst pe tp tl) = true := (cd_f c1).trans (cd_t c2)
      exact g_zretR S hr hlk hS rfl (by rw [hf] <;> rfl) dX4_isAnyKeyword_95
    · refine lv_aload_n S.1 S.2.1 dX4_isAnyKeyword_18 rfl (lv_at hl 0 rfl) ?_
      refine va_ldcS (own := RX4) (q := D.2 200 2) S.1 S.2.1 S.2.2.2.1 (ldS_2 hE) dX4_isAnyKeyword_19 ?_
      refine g_aftR0 (st1 := [.int (b2i (f_X4_reads pst pe tp tl 2))]) (g_V (As := [.ref (D.2 200 2)]) (rest := []) S mi_X4_reads qw640 (c_X4_reads l D A w α (k) pk pst pe tp tl dnums dbNames dpNames dfBoats dnB dnP 2 hB0 (by decide)) hK hP hD hE hS (hB0 0 _ rfl) rfl rfl rfl hl.1 (Nat.le_of_ble_eq_true rfl) rfl rfl ⟨(Nat.le_of_ble_eq_true rfl), (Nat.le_of_ble_eq_true rfl)⟩ ⟨(Nat.le_of_ble_eq_true rfl), (Nat.le_of_ble_eq_true rfl)⟩ dX4_isAnyKeyword_21) hS rfl (fun locs hS => ?_)
      refine g_bifne (b := (f_X4_reads pst pe tp tl 2)) (tgt := 90) S dX4_isAnyKeyword_24 (by decide) (fun (c3 : (f_X4_reads pst pe tp tl 2) = true) => ?_) (fun (c3 : (f_X4_reads pst pe tp tl 2) = false) => ?_)
      · refine lv_iconst (v := 1) S.1 S.2.1 dX4_isAnyKeyword_90 (by decide) ?_
        refine lv_goto (tgt := 95) S.1 S.2.1 dX4_isAnyKeyword_91 (by decide) ?_
        have hf : (f_X4_isAnyKeyword pst pe tp tl) = true := (cd_f c1).trans ((cd_f c2).trans (cd_t c3))
        exact g_zretR S hr hlk hS rfl (by rw [hf] <;> rfl) dX4_isAnyKeyword_95
      · refine lv_aload_n S.1 S.2.1 dX4_isAnyKeyword_27 rfl (lv_at hl 0 rfl) ?_
        refine va_ldcS (own := RX4) (q := D.2 200 3) S.1 S.2.1 S.2.2.2.1 (ldS_3 hE) dX4_isAnyKeyword_28 ?_
        refine g_aftR0 (st1 := [.int (b2i (f_X4_reads pst pe tp tl 3))]) (g_V (As := [.ref (D.2 200 3)]) (rest := []) S mi_X4_reads qw640 (c_X4_reads l D A w α (k) pk pst pe tp tl dnums dbNames dpNames dfBoats dnB dnP 3 hB0 (by decide)) hK hP hD hE hS (hB0 0 _ rfl) rfl rfl rfl hl.1 (Nat.le_of_ble_eq_true rfl) rfl rfl ⟨(Nat.le_of_ble_eq_true rfl), (Nat.le_of_ble_eq_true rfl)⟩ ⟨(Nat.le_of_ble_eq_true rfl), (Nat.le_of_ble_eq_true rfl)⟩ dX4_isAnyKeyword_30) hS rfl (fun locs hS => ?_)
        refine g_bifne (b := (f_X4_reads pst pe tp tl 3)) (tgt := 90) S dX4_isAnyKeyword_33 (by decide) (fun (c4 : (f_X4_reads pst pe tp tl 3) = true) => ?_) (fun (c4 : (f_X4_reads pst pe tp tl 3) = false) => ?_)
        · refine lv_iconst (v := 1) S.1 S.2.1 dX4_isAnyKeyword_90 (by decide) ?_
          refine lv_goto (tgt := 95) S.1 S.2.1 dX4_isAnyKeyword_91 (by decide) ?_
          have hf : (f_X4_isAnyKeyword pst pe tp tl) = true := (cd_f c1).trans ((cd_f c2).trans ((cd_f c3).trans (cd_t c4)))
          exact g_zretR S hr hlk hS rfl (by rw [hf] <;> rfl) dX4_isAnyKeyword_95
        · refine lv_aload_n S.1 S.2.1 dX4_isAnyKeyword_36 rfl (lv_at hl 0 rfl) ?_
          refine va_ldcS (own := RX4) (q := D.2 200 4) S.1 S.2.1 S.2.2.2.1 (ldS_4 hE) dX4_isAnyKeyword_37 ?_
          refine g_aftR0 (st1 := [.int (b2i (f_X4_reads pst pe tp tl 4))]) (g_V (As := [.ref (D.2 200 4)]) (rest := []) S mi_X4_reads qw640 (c_X4_reads l D A w α (k) pk pst pe tp tl dnums dbNames dpNames dfBoats dnB dnP 4 hB0 (by decide)) hK hP hD hE hS (hB0 0 _ rfl) rfl rfl rfl hl.1 (Nat.le_of_ble_eq_true rfl) rfl rfl ⟨(Nat.le_of_ble_eq_true rfl), (Nat.le_of_ble_eq_true rfl)⟩ ⟨(Nat.le_of_ble_eq_true rfl), (Nat.le_of_ble_eq_true rfl)⟩ dX4_isAnyKeyword_39) hS rfl (fun locs hS => ?_)
          refine g_bifne (b := (f_X4_reads pst pe tp tl 4)) (tgt := 90) S dX4_isAnyKeyword_42 (by decide) (fun (c5 : (f_X4_reads pst pe tp tl 4) = true) => ?_) (fun (c5 : (f_X4_reads pst pe tp tl 4) = false) => ?_)
          · refine lv_iconst (v := 1) S.1 S.2.1 dX4_isAnyKeyword_90 (by decide) ?_
            refine lv_goto (tgt := 95) S.1 S.2.1 dX4_isAnyKeyword_91 (by decide) ?_
            have hf : (f_X4_isAnyKeyword pst pe tp tl) = true := (cd_f c1).trans ((cd_f c2).trans ((cd_f c3).trans ((cd_f c4).trans (cd_t c5))))
            exact g_zretR S hr hlk hS rfl (by rw [hf] <;> rfl) dX4_isAnyKeyword_95
          · refine lv_aload_n S.1 S.2.1 dX4_isAnyKeyword_45 rfl (lv_at hl 0 rfl) ?_
            refine va_ldcS (own := RX4) (q := D.2 200 5) S.1 S.2.1 S.2.2.2.1 (ldS_5 hE) dX4_isAnyKeyword_46 ?_
            refine g_aftR0 (st1 := [.int (b2i (f_X4_reads pst pe tp tl 5))]) (g_V (As := [.ref (D.2 200 5)]) (rest := []) S mi_X4_reads qw640 (c_X4_reads l D A w α (k) pk pst pe tp tl dnums dbNames dpNames dfBoats dnB dnP 5 hB0 (by decide)) hK hP hD hE hS (hB0 0 _ rfl) rfl rfl rfl hl.1 (Nat.le_of_ble_eq_true rfl) rfl rfl ⟨(Nat.le_of_ble_eq_true rfl), (Nat.le_of_ble_eq_true rfl)⟩ ⟨(Nat.le_of_ble_eq_true rfl), (Nat.le_of_ble_eq_true rfl)⟩ dX4_isAnyKeyword_48) hS rfl (fun locs hS => ?_)
            refine g_bifne (b := (f_X4_reads pst pe tp tl 5)) (tgt := 90) S dX4_isAnyKeyword_51 (by decide) (fun (c6 : (f_X4_reads pst pe tp tl 5) = true) => ?_) (fun (c6 : (f_X4_reads pst pe tp tl 5) = false) => ?_)
            · refine lv_iconst (v := 1) S.1 S.2.1 dX4_isAnyKeyword_90 (by decide) ?_
              refine lv_goto (tgt := 95) S.1 S.2.1 dX4_isAnyKeyword_91 (by decide) ?_
              have hf : (f_X4_isAnyKeyword pst pe tp tl) = true := (cd_f c1).trans ((cd_f c2).trans ((cd_f c3).trans ((cd_f c4).trans ((cd_f c5).trans (cd_t c6)))))
              exact g_zretR S hr hlk hS rfl (by rw [hf] <;> rfl) dX4_isAnyKeyword_95
            · refine lv_aload_n S.1 S.2.1 dX4_isAnyKeyword_54 rfl (lv_at hl 0 rfl) ?_
              refine va_ldcS (own := RX4) (q := D.2 200 6) S.1 S.2.1 S.2.2.2.1 (ldS_6 hE) dX4_isAnyKeyword_55 ?_
              refine g_aftR0 (st1 := [.int (b2i (f_X4_reads pst pe tp tl 6))]) (g_V (As := [.ref (D.2 200 6)]) (rest := []) S mi_X4_reads qw640 (c_X4_reads l D A w α (k) pk pst pe tp tl dnums dbNames dpNames dfBoats dnB dnP 6 hB0 (by decide)) hK hP hD hE hS (hB0 0 _ rfl) rfl rfl rfl hl.1 (Nat.le_of_ble_eq_true rfl) rfl rfl ⟨(Nat.le_of_ble_eq_true rfl), (Nat.le_of_ble_eq_true rfl)⟩ ⟨(Nat.le_of_ble_eq_true rfl), (Nat.le_of_ble_eq_true rfl)⟩ dX4_isAnyKeyword_57) hS rfl (fun locs hS => ?_)
              refine g_bifne (b := (f_X4_reads pst pe tp tl 6)) (tgt := 90) S dX4_isAnyKeyword_60 (by decide) (fun (c7 : (f_X4_reads pst pe tp tl 6) = true) => ?_) (fun (c7 : (f_X4_reads pst pe tp tl 6) = false) => ?_)
              · refine lv_iconst (v := 1) S.1 S.2.1 dX4_isAnyKeyword_90 (by decide) ?_
                refine lv_goto (tgt := 95) S.1 S.2.1 dX4_isAnyKeyword_91 (by decide) ?_
                have hf : (f_X4_isAnyKeyword pst pe tp tl) = true := (cd_f c1).trans ((cd_f c2).trans ((cd_f c3).trans ((cd_f c4).trans ((cd_f c5).trans ((cd_f c6).trans (cd_t c7))))))
                exact g_zretR S hr hlk hS rfl (by rw [hf] <;> rfl) dX4_isAnyKeyword_95
              · refine lv_aload_n S.1 S.2.1 dX4_isAnyKeyword_63 rfl (lv_at hl 0 rfl) ?_
                refine va_ldcS (own := RX4) (q := D.2 200 7) S.1 S.2.1 S.2.2.2.1 (ldS_7 hE) dX4_isAnyKeyword_64 ?_
                refine g_aftR0 (st1 := [.int (b2i (f_X4_reads pst pe tp tl 7))]) (g_V (As := [.ref (D.2 200 7)]) (rest := []) S mi_X4_reads qw640 (c_X4_reads l D A w α (k) pk pst pe tp tl dnums dbNames dpNames dfBoats dnB dnP 7 hB0 (by decide)) hK hP hD hE hS (hB0 0 _ rfl) rfl rfl rfl hl.1 (Nat.le_of_ble_eq_true rfl) rfl rfl ⟨(Nat.le_of_ble_eq_true rfl), (Nat.le_of_ble_eq_true rfl)⟩ ⟨(Nat.le_of_ble_eq_true rfl), (Nat.le_of_ble_eq_true rfl)⟩ dX4_isAnyKeyword_66) hS rfl (fun locs hS => ?_)
                refine g_bifne (b := (f_X4_reads pst pe tp tl 7)) (tgt := 90) S dX4_isAnyKeyword_69 (by decide) (fun (c8 : (f_X4_reads pst pe tp tl 7) = true) => ?_) (fun (c8 : (f_X4_reads pst pe tp tl 7) = false) => ?_)
                · refine lv_iconst (v := 1) S.1 S.2.1 dX4_isAnyKeyword_90 (by decide) ?_
                  refine lv_goto (tgt := 95) S.1 S.2.1 dX4_isAnyKeyword_91 (by decide) ?_
                  have hf : (f_X4_isAnyKeyword pst pe tp tl) = true := (cd_f c1).trans ((cd_f c2).trans ((cd_f c3).trans ((cd_f c4).trans ((cd_f c5).trans ((cd_f c6).trans ((cd_f c7).trans (cd_t c8)))))))
                  exact g_zretR S hr hlk hS rfl (by rw [hf] <;> rfl) dX4_isAnyKeyword_95
                · refine lv_aload_n S.1 S.2.1 dX4_isAnyKeyword_72 rfl (lv_at hl 0 rfl) ?_
                  refine va_ldcS (own := RX4) (q := D.2 200 8) S.1 S.2.1 S.2.2.2.1 (ldS_8 hE) dX4_isAnyKeyword_73 ?_
                  refine g_aftR0 (st1 := [.int (b2i (f_X4_reads pst pe tp tl 8))]) (g_V (As := [.ref (D.2 200 8)]) (rest := []) S mi_X4_reads qw640 (c_X4_reads l D A w α (k) pk pst pe tp tl dnums dbNames dpNames dfBoats dnB dnP 8 hB0 (by decide)) hK hP hD hE hS (hB0 0 _ rfl) rfl rfl rfl hl.1 (Nat.le_of_ble_eq_true rfl) rfl rfl ⟨(Nat.le_of_ble_eq_true rfl), (Nat.le_of_ble_eq_true rfl)⟩ ⟨(Nat.le_of_ble_eq_true rfl), (Nat.le_of_ble_eq_true rfl)⟩ dX4_isAnyKeyword_75) hS rfl (fun locs hS => ?_)
                  refine g_bifne (b := (f_X4_reads pst pe tp tl 8)) (tgt := 90) S dX4_isAnyKeyword_78 (by decide) (fun (c9 : (f_X4_reads pst pe tp tl 8) = true) => ?_) (fun (c9 : (f_X4_reads pst pe tp tl 8) = false) => ?_)
                  · refine lv_iconst (v := 1) S.1 S.2.1 dX4_isAnyKeyword_90 (by decide) ?_
                    refine lv_goto (tgt := 95) S.1 S.2.1 dX4_isAnyKeyword_91 (by decide) ?_
                    have hf : (f_X4_isAnyKeyword pst pe tp tl) = true := (cd_f c1).trans ((cd_f c2).trans ((cd_f c3).trans ((cd_f c4).trans ((cd_f c5).trans ((cd_f c6).trans ((cd_f c7).trans ((cd_f c8).trans (cd_t c9))))))))
                    exact g_zretR S hr hlk hS rfl (by rw [hf] <;> rfl) dX4_isAnyKeyword_95
                  · refine lv_aload_n S.1 S.2.1 dX4_isAnyKeyword_81 rfl (lv_at hl 0 rfl) ?_
                    refine va_ldcS (own := RX4) (q := D.2 200 9) S.1 S.2.1 S.2.2.2.1 (ldS_9 hE) dX4_isAnyKeyword_82 ?_
                    refine g_aftR0 (st1 := [.int (b2i (f_X4_reads pst pe tp tl 9))]) (g_V (As := [.ref (D.2 200 9)]) (rest := []) S mi_X4_reads qw640 (c_X4_reads l D A w α (k) pk pst pe tp tl dnums dbNames dpNames dfBoats dnB dnP 9 hB0 (by decide)) hK hP hD hE hS (hB0 0 _ rfl) rfl rfl rfl hl.1 (Nat.le_of_ble_eq_true rfl) rfl rfl ⟨(Nat.le_of_ble_eq_true rfl), (Nat.le_of_ble_eq_true rfl)⟩ ⟨(Nat.le_of_ble_eq_true rfl), (Nat.le_of_ble_eq_true rfl)⟩ dX4_isAnyKeyword_84) hS rfl (fun locs hS => ?_)
                    refine g_bifeq (b := (f_X4_reads pst pe tp tl 9)) (tgt := 94) S dX4_isAnyKeyword_87 (by decide) (fun (c10 : (f_X4_reads pst pe tp tl 9) = false) => ?_) (fun (c10 : (f_X4_reads pst pe tp tl 9) = true) => ?_)
                    · refine lv_iconst (v := 0) S.1 S.2.1 dX4_isAnyKeyword_94 (by decide) ?_
                      have hf : (f_X4_isAnyKeyword pst pe tp tl) = false := (cd_f c1).trans ((cd_f c2).trans ((cd_f c3).trans ((cd_f c4).trans ((cd_f c5).trans ((cd_f c6).trans ((cd_f c7).trans ((cd_f c8).trans ((cd_f c9).trans (cd_f c10)))))))))
                      exact g_zretR S hr hlk hS rfl (by rw [hf] <;> rfl) dX4_isAnyKeyword_95
                    · refine lv_iconst (v := 1) S.1 S.2.1 dX4_isAnyKeyword_90 (by decide) ?_
                      refine lv_goto (tgt := 95) S.1 S.2.1 dX4_isAnyKeyword_91 (by decide) ?_
                      have hf : (f_X4_isAnyKeyword pst pe tp tl) = true := (cd_f c1).trans ((cd_f c2).trans ((cd_f c3).trans ((cd_f c4).trans ((cd_f c5).trans ((cd_f c6).trans ((cd_f c7).trans ((cd_f c8).trans ((cd_f c9).trans (cd_t c10)))))))))
                      exact g_zretR S hr hlk hS rfl (by rw [hf] <;> rfl) dX4_isAnyKeyword_95
