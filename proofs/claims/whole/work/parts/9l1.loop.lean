/-! THE LAW: its loop -/
theorem sub6 {L : Nat} (h6 : 6 ≤ L) (hL : L ≤ 3072) : (nI L - 6 : Int32) = nI (L - 6) := by
  obtain ⟨k, rfl⟩ : ∃ k, L = k + 6 := ⟨L - 6, by omega⟩
  rw [Nat.add_sub_cancel, show (6 : Int32) = nI 6 by decide, ← nI_add]
  exact Int32.add_sub_cancel _ _
theorem stop6 {L j : Nat} (hL : L ≤ 3072) (hj : 6 * j ≤ L) (h : ¬ nI (6 * j) > nI L - 6) : 6 * j + 6 ≤ L := by
  by_cases h6 : 6 ≤ L
  · rw [sub6 h6 hL] at h
    rcases Nat.lt_or_ge (L - 6) (6 * j) with z | z
    · exact absurd (nI_lt z (by omega)) h
    · omega
  · have j0 : j = 0 := by omega
    subst j0
    exfalso
    rcases (show L = 0 ∨ L = 1 ∨ L = 2 ∨ L = 3 ∨ L = 4 ∨ L = 5 by omega) with q | q | q | q | q | q <;> subst q <;> exact h (by decide)
theorem in6 {L j : Nat} (hL : L ≤ 3072) (h : 6 * j + 6 ≤ L) : ∀ k : Int32, 1 ≤ k → k ≤ 5 → vp_in (nI (6 * j) + k) L := by
  intro k h1 h5
  have e1 : (1 : Int32).toInt = 1 := by decide
  have e5 : (5 : Int32).toInt = 5 := by decide
  have t1 := Int32.le_iff_toInt_le.mp h1
  have t5 := Int32.le_iff_toInt_le.mp h5
  rw [e1] at t1
  rw [e5] at t5
  rcases (show k.toInt = (1 : Int32).toInt ∨ k.toInt = (2 : Int32).toInt ∨ k.toInt = (3 : Int32).toInt ∨ k.toInt = (4 : Int32).toInt ∨ k.toInt = (5 : Int32).toInt by
    have e2 : (2 : Int32).toInt = 2 := by decide
    have e3 : (3 : Int32).toInt = 3 := by decide
    have e4 : (4 : Int32).toInt = 4 := by decide
    omega) with q | q | q | q | q <;> rw [Int32.toInt_inj.mp q]
  · rw [show (1 : Int32) = nI 1 by decide, nI_add]
    exact vp_in_nI (by omega) (by omega)
  · rw [show (2 : Int32) = nI 2 by decide, nI_add]
    exact vp_in_nI (by omega) (by omega)
  · rw [show (3 : Int32) = nI 3 by decide, nI_add]
    exact vp_in_nI (by omega) (by omega)
  · rw [show (4 : Int32) = nI 4 by decide, nI_add]
    exact vp_in_nI (by omega) (by omega)
  · rw [show (5 : Int32) = nI 5 by decide, nI_add]
    exact vp_in_nI (by omega) (by omega)
theorem law_loop {D : va_G} {A : Nat → Prop} {α : Nat → Nat} {p : Program} {l : Launch} {e : Env} {m : MethodId} {c : Code} {meth : Method} {below : List Frame} {s : State} {b L : Nat} {xs : Nat → Int32} (hA : ∀ q : Nat, A q → s.heap.size ≤ q) (hL : L ≤ 3072) (hr : meth.sig.returnType = ret) (hlocks : meth.locks = false) :
    ∀ (n j : Nat) (d0 : Drawn) (w : va_W) (H : Heap) (locs : List Loc) (ls : Array Slot), L < 6 * (j + n) → 6 * j ≤ L → s.drawn.sameBut d0 lw_cs → LCtx D A p m c (s.setDrawn d0) b L xs → INV D α j w → va_P D vwCl w H → va_D A w → va_S A s.heap H locs → lv_has ls 8 [(0, .ref b), (1, .ref (α 0)), (2, .ref (α 234)), (3, .int (nI (6 * j)))] → W p l e room_1 (s.setDrawn d0) m #[Value.ref b] below meth c H locs 248 12703 (lw_Z below #[Value.ref b] s) (F0 m 18 ls []) := by
  intro n
  induction n with
  | zero =>
    intro j d0 w H locs ls h1 h2
    exact absurd h1 (by omega)
  | succ n ih =>
    intro j d0 w H locs ls hn hj hd0 C hi hP hD hS hl
    obtain ⟨S, hK, hE, hX, hbl, hbA⟩ := id C
    refine lv_iload_n S.1 S.2.1 dL_law_18 rfl (lv_at hl 3 rfl) ?_
    refine lv_aload_n S.1 S.2.1 dL_law_19 rfl (lv_at hl 0 rfl) ?_
    refine va_slen S.1 S.2.1 hX hbl hbA hS dL_law_20 ?_
    refine lv_bipush (v := 6) S.1 S.2.1 dL_law_21 (by decide) ?_
    refine lv_isub S.1 S.2.1 dL_law_23 ?_
    refine lv_icmp_gt (tgt := 1535) S.1 S.2.1 dL_law_24 (by decide) (fun _ => ?_) (fun hgo => ?_)
    · refine lv_iconst (v := 1) S.1 S.2.1 dL_law_1535 (by decide) ?_
      refine va_forget (fun q hq => hA _ (hS.2.2 q hq)) ?_
      refine W.widen (k := 600000) (n := 7302250) (by decide) (by decide) ?_
      exact lw_ret hd0 S.1 S.2.1 hr hlocks dL_law_1536
    · have h6 : 6 * j + 6 ≤ L := stop6 hL hj hgo
      have hN : j ≤ 600 := by omega
      have hx := in6 hL h6
      have back : ∀ (d1 : Drawn) (w1 : va_W) (H1 : Heap) (locs1 : List Loc) (ls1 : Array Slot), s.drawn.sameBut d1 lw_cs → INV D α (j + 1) w1 → va_P D vwCl w1 H1 → va_D A w1 → va_S A s.heap H1 locs1 → lv_has ls1 8 [(0, .ref b), (1, .ref (α 0)), (2, .ref (α 234)), (3, .int (nI (6 * j)))] → W p l e room_1 (s.setDrawn d1) m #[Value.ref b] below meth c H1 locs1 248 12703 (lw_Z below #[Value.ref b] s) (F0 m 1529 ls1 []) := by
        intro d1 w1 H1 locs1 ls1 hd1 hi1 hP1 hD1 hS1 hl1
        have C1 : LCtx D A p m c (s.setDrawn d1) b L xs := C.drawn d1
        refine lv_iinc (v := nI (6 * (j + 1))) (lv' := [(3, .int (nI (6 * (j + 1)))), (0, .ref b), (1, .ref (α 0)), (2, .ref (α 234))]) S.1 S.2.1 dL_law_1529 hl1 (k := 3) rfl (by rw [show Int32.ofInt 6 = nI 6 by decide, nI_add, show 6 * j + 6 = 6 * (j + 1) by omega]) (by decide) rfl (fun ls hl => ?_)
        refine lv_goto (tgt := 18) S.1 S.2.1 dL_law_1532 (by decide) ?_
        exact ih (j + 1) d1 w1 H1 locs1 ls (by omega) (by omega) hd1 C1 hi1 hP1 hD1 hS1 (lv_sub hl [1, 2, 3, 0] rfl)
      have one : ∀ (w1 : va_W) (H1 : Heap) (locs1 : List Loc), INV D α (j + 1) w1 → va_P D vwCl w1 H1 → va_D A w1 → va_S A (s.setDrawn d0).heap H1 locs1 → W p l e room_1 (s.setDrawn d0) m #[Value.ref b] below meth c H1 locs1 248 12703 (lw_Z below #[Value.ref b] s) (F0 m 1529 ls []) := fun w1 H1 locs1 a1 a2 a3 a4 => back d0 w1 H1 locs1 ls hd0 a1 a2 a3 a4 hl
      have two : ∀ (d1 : Drawn) (w1 : va_W) (H1 : Heap) (locs1 : List Loc) (ls1 : Array Slot), (s.setDrawn d0).drawn.sameBut d1 lw_cs → INV D α (j + 1) w1 → va_P D vwCl w1 H1 → va_D A w1 → va_S A (s.setDrawn d0).heap H1 locs1 → lv_has ls1 8 [(0, .ref b), (1, .ref (α 0)), (2, .ref (α 234)), (3, .int (nI (6 * j)))] → W p l e room_1 ((s.setDrawn d0).setDrawn d1) m #[Value.ref b] below meth c H1 locs1 248 12703 (lw_Z below #[Value.ref b] s) (F0 m 1529 ls1 []) := fun d1 w1 H1 locs1 ls1 a0 a1 a2 a3 a4 a5 => back d1 w1 H1 locs1 ls1 (hd0.trans a0) a1 a2 a3 a4 a5
      refine lv_aload_n S.1 S.2.1 dL_law_27 rfl (lv_at hl 0 rfl) ?_
      refine lv_iload_n S.1 S.2.1 dL_law_28 rfl (lv_at hl 3 rfl) ?_
      refine va_sld S.1 S.2.1 hX hbl hbA hS (vp_in_nI (by omega) (by omega)) dL_law_29 ?_
      refine lv_bipush (v := 63) S.1 S.2.1 dL_law_30 (by decide) ?_
      refine lv_iand S.1 S.2.1 dL_law_32 ?_
      refine lv_topi (fun z _ => ?_)
      by_cases hz : z.toInt < 0 ∨ 50 < z.toInt
      · refine lv_tableOut (tgt := 1529) S.1 S.2.1 dL_law_33 hz (by decide) ?_
        exact one w H locs hi.next hP hD hS
      · obtain ⟨P, B, Qs, err, pk, pst, pe, tp, tl, dnums, dbNames, dpNames, dfBoats, dnB, dnP, nums, bNames, pNames, fBoats, nB, nP, day, votes, isOpen, baskets, lays, recs, fneed, clos, boatO, seaO, faultO, daysO, backB, sailB, plc, car, bnd, bsk, dyL, rsn, pastF, pastN, logF, logN, blB, blC, hsN, hsX, hsF, kpF, kpZ, tx, txl, mTaped, mErr, mPpl, mBts, mUs, mRa, mSt, mKi, mWd, mVal, mLet, mFin, mNp, mNb, mOuts, mWant, mFnd, mTape, mNum, mNam, mFst, mBnm, mW, mUn, mSl, mKp, mnNum, mnNam, mnBo, mnBn, hV, hB, hR⟩ := hi
        obtain ⟨k, hk, hk51⟩ : ∃ k : Nat, z.toInt = k ∧ k < 51 := ⟨z.toInt.toNat, by omega, by omega⟩
        match k, hk, hk51 with
        | 0, q, _ => exact lv_tableIn (off := 219) (tgt := 252) S.1 S.2.1 dL_law_33 (by omega) (by omega) (by rw [q]; rfl) (by decide) (lc_append C hP hD hS hV hB hR hN hl hx one)
        | 1, q, _ => exact lv_tableIn (off := 282) (tgt := 315) S.1 S.2.1 dL_law_33 (by omega) (by omega) (by rw [q]; rfl) (by decide) (lc_truncate C hP hD hS hV hB hR hN hl hx one)
        | 2, q, _ => exact lv_tableIn (off := 305) (tgt := 338) S.1 S.2.1 dL_law_33 (by omega) (by omega) (by rw [q]; rfl) (by decide) (lc_load C hP hD hS hV hB hR hN hl hx one)
        | 3, q, _ => exact lv_tableIn (off := 318) (tgt := 351) S.1 S.2.1 dL_law_33 (by omega) (by omega) (by rw [q]; rfl) (by decide) (lc_errorPosition C hP hD hS hV hB hR hN hl hx one)
        | 4, q, _ => exact lv_tableIn (off := 331) (tgt := 364) S.1 S.2.1 dL_law_33 (by omega) (by omega) (by rw [q]; rfl) (by decide) (lc_sail C hP hD hS hV hB hR hN hl hx one)
        | 5, q, _ => exact lv_tableIn (off := 364) (tgt := 397) S.1 S.2.1 dL_law_33 (by omega) (by omega) (by rw [q]; rfl) (by decide) (lc_delay C hP hD hS hV hB hR hN hl hx one)
        | 6, q, _ => exact lv_tableIn (off := 397) (tgt := 430) S.1 S.2.1 dL_law_33 (by omega) (by omega) (by rw [q]; rfl) (by decide) (lc_comeHome C hP hD hS hV hB hR hN hl hx one)
        | 7, q, _ => exact lv_tableIn (off := 420) (tgt := 453) S.1 S.2.1 dL_law_33 (by omega) (by omega) (by rw [q]; rfl) (by decide) (lc_join C hP hD hS hV hB hR hN hl hx one)
        | 8, q, _ => exact lv_tableIn (off := 453) (tgt := 486) S.1 S.2.1 dL_law_33 (by omega) (by omega) (by rw [q]; rfl) (by decide) (lc_open C hP hD hS hV hB hR hN hl hx one)
        | 9, q, _ => exact lv_tableIn (off := 476) (tgt := 509) S.1 S.2.1 dL_law_33 (by omega) (by omega) (by rw [q]; rfl) (by decide) (lc_give C hP hD hS hV hB hR hN hl hx one)
        | 10, q, _ => exact lv_tableIn (off := 519) (tgt := 552) S.1 S.2.1 dL_law_33 (by omega) (by omega) (by rw [q]; rfl) (by decide) (lc_takeBack C hP hD hS hV hB hR hN hl hx one)
        | 11, q, _ => exact lv_tableIn (off := 542) (tgt := 575) S.1 S.2.1 dL_law_33 (by omega) (by omega) (by rw [q]; rfl) (by decide) (lc_lay C hP hD hS hV hB hR hN hl hx one)
        | 12, q, _ => exact lv_tableIn (off := 585) (tgt := 618) S.1 S.2.1 dL_law_33 (by omega) (by omega) (by rw [q]; rfl) (by decide) (lc_contest C hP hD hS hV hB hR hN hl hx one)
        | 13, q, _ => exact lv_tableIn (off := 618) (tgt := 651) S.1 S.2.1 dL_law_33 (by omega) (by omega) (by rw [q]; rfl) (by decide) (lc_close C hP hD hS hV hB hR hN hl hx one)
        | 14, q, _ => exact lv_tableIn (off := 631) (tgt := 664) S.1 S.2.1 dL_law_33 (by omega) (by omega) (by rw [q]; rfl) (by decide) (lc_recount C hP hD hS hV hB hR hN hl hx one)
        | 15, q, _ => exact lv_tableIn (off := 644) (tgt := 677) S.1 S.2.1 dL_law_33 (by omega) (by omega) (by rw [q]; rfl) (by decide) (lc_pass C hP hD hS hV hB hR hN hl hx one)
        | 16, q, _ => exact lv_tableIn (off := 667) (tgt := 700) S.1 S.2.1 dL_law_33 (by omega) (by omega) (by rw [q]; rfl) (by decide) (lc_keep C hP hD hS hV hB hR hN hl hx one)
        | 17, q, _ => exact lv_tableIn (off := 690) (tgt := 723) S.1 S.2.1 dL_law_33 (by omega) (by omega) (by rw [q]; rfl) (by decide) (lc_restore C hP hD hS hV hB hR hN hl hx one)
        | 18, q, _ => exact lv_tableIn (off := 713) (tgt := 746) S.1 S.2.1 dL_law_33 (by omega) (by omega) (by rw [q]; rfl) (by decide) (lc_undo C hP hD hS hV hB hR hN hl hx one)
        | 19, q, _ => exact lv_tableIn (off := 726) (tgt := 759) S.1 S.2.1 dL_law_33 (by omega) (by omega) (by rw [q]; rfl) (by decide) (lc_value C hP hD hS hV hB hR hN hl hx one)
        | 20, q, _ => exact lv_tableIn (off := 749) (tgt := 782) S.1 S.2.1 dL_law_33 (by omega) (by omega) (by rw [q]; rfl) (by decide) (lc_person C hP hD hS hV hB hR hN hl hx one)
        | 21, q, _ => exact lv_tableIn (off := 782) (tgt := 815) S.1 S.2.1 dL_law_33 (by omega) (by omega) (by rw [q]; rfl) (by decide) (lc_boat C hP hD hS hV hB hR hN hl hx one)
        | 22, q, _ => exact lv_tableIn (off := 815) (tgt := 848) S.1 S.2.1 dL_law_33 (by omega) (by omega) (by rw [q]; rfl) (by decide) (lc_stick C hP hD hS hV hB hR hN hl hx one)
        | 23, q, _ => exact lv_tableIn (off := 848) (tgt := 881) S.1 S.2.1 dL_law_33 (by omega) (by omega) (by rw [q]; rfl) (by decide) (lc_basket C hP hD hS hV hB hR hN hl hx one)
        | 24, q, _ => exact lv_tableIn (off := 871) (tgt := 904) S.1 S.2.1 dL_law_33 (by omega) (by omega) (by rw [q]; rfl) (by decide) (lc_number C hP hD hS hV hB hR hN hl hx one)
        | 25, q, _ => exact lv_tableIn (off := 894) (tgt := 927) S.1 S.2.1 dL_law_33 (by omega) (by omega) (by rw [q]; rfl) (by decide) (lc_past C hP hD hS hV hB hR hN hl hx one)
        | 26, q, _ => exact lv_tableIn (off := 927) (tgt := 960) S.1 S.2.1 dL_law_33 (by omega) (by omega) (by rw [q]; rfl) (by decide) (lc_log C hP hD hS hV hB hR hN hl hx one)
        | 27, q, _ => exact lv_tableIn (off := 960) (tgt := 993) S.1 S.2.1 dL_law_33 (by omega) (by omega) (by rw [q]; rfl) (by decide) (lc_named C hP hD hS hV hB hR hN hl hx one)
        | 28, q, _ => exact lv_tableIn (off := 1009) (tgt := 1042) S.1 S.2.1 dL_law_33 (by omega) (by omega) (by rw [q]; rfl) (by decide) (lc_owners C hP hD hS hV hB hR hN hl hx one)
        | 29, q, _ => exact lv_tableIn (off := 1032) (tgt := 1065) S.1 S.2.1 dL_law_33 (by omega) (by omega) (by rw [q]; rfl) (by decide) (lc_carries C hP hD hS hV hB hR hN hl hx one)
        | 30, q, _ => exact lv_tableIn (off := 1055) (tgt := 1088) S.1 S.2.1 dL_law_33 (by omega) (by omega) (by rw [q]; rfl) (by decide) (lc_wrongOnes C hP hD hS hV hB hR hN hl hx one)
        | 31, q, _ => exact lv_tableIn (off := 1068) (tgt := 1101) S.1 S.2.1 dL_law_33 (by omega) (by omega) (by rw [q]; rfl) (by decide) (lc_why C hP hD hS hV hB hR hN hl hx one)
        | 32, q, _ => exact lv_tableIn (off := 1111) (tgt := 1144) S.1 S.2.1 dL_law_33 (by omega) (by omega) (by rw [q]; rfl) (by decide) (lc_needIfHome C hP hD hS hV hB hR hN hl hx one)
        | 33, q, _ => exact lv_tableIn (off := 1134) (tgt := 1167) S.1 S.2.1 dL_law_33 (by omega) (by omega) (by rw [q]; rfl) (by decide) (lc_leads C hP hD hS hV hB hR hN hl hx one)
        | 34, q, _ => exact lv_tableIn (off := 1147) (tgt := 1180) S.1 S.2.1 dL_law_33 (by omega) (by omega) (by rw [q]; rfl) (by decide) (lc_truly C hP hD hS hV hB hR hN hl hx one)
        | 35, q, _ => exact lv_tableIn (off := 1160) (tgt := 1193) S.1 S.2.1 dL_law_33 (by omega) (by omega) (by rw [q]; rfl) (by decide) (lc_canWin C hP hD hS hV hB hR hN hl hx one)
        | 36, q, _ => exact lv_tableIn (off := 1183) (tgt := 1216) S.1 S.2.1 dL_law_33 (by omega) (by omega) (by rw [q]; rfl) (by decide) (lc_decisive C hP hD hS hV hB hR hN hl hx one)
        | 37, q, _ => exact lv_tableIn (off := 1196) (tgt := 1229) S.1 S.2.1 dL_law_33 (by omega) (by omega) (by rw [q]; rfl) (by decide) (lc_lacks C hP hD hS hV hB hR hN hl hx one)
        | 38, q, _ => exact lv_tableIn (off := 1209) (tgt := 1242) S.1 S.2.1 dL_law_33 (by omega) (by omega) (by rw [q]; rfl) (by decide) (lc_needIn C hP hD hS hV hB hR hN hl hx one)
        | 39, q, _ => exact lv_tableIn (off := 1232) (tgt := 1265) S.1 S.2.1 dL_law_33 (by omega) (by omega) (by rw [q]; rfl) (by decide) (lc_bestDay C hP hD hS hV hB hR hN hl hx one)
        | 40, q, _ => exact lv_tableIn (off := 1255) (tgt := 1288) S.1 S.2.1 dL_law_33 (by omega) (by omega) (by rw [q]; rfl) (by decide) (lc_mightiest C hP hD hS hV hB hR hN hl hx one)
        | 41, q, _ => exact lv_tableIn (off := 1268) (tgt := 1301) S.1 S.2.1 dL_law_33 (by omega) (by omega) (by rw [q]; rfl) (by decide) (lc_agrees C hP hD hS hV hB hR hN hl hx one)
        | 42, q, _ => exact lv_tableIn (off := 1281) (tgt := 1314) S.1 S.2.1 dL_law_33 (by omega) (by omega) (by rw [q]; rfl) (by decide) (lc_share C hP hD hS hV hB hR hN hl hx two)
        | 43, q, _ => exact lv_tableIn (off := 1334) (tgt := 1367) S.1 S.2.1 dL_law_33 (by omega) (by omega) (by rw [q]; rfl) (by decide) (lc_seafaring C hP hD hS hV hB hR hN hl hx two)
        | 44, q, _ => exact lv_tableIn (off := 1375) (tgt := 1408) S.1 S.2.1 dL_law_33 (by omega) (by omega) (by rw [q]; rfl) (by decide) (lc_viewLength C hP hD hS hV hB hR hN hl hx one)
        | 45, q, _ => exact lv_tableIn (off := 1388) (tgt := 1421) S.1 S.2.1 dL_law_33 (by omega) (by omega) (by rw [q]; rfl) (by decide) (lc_viewByte C hP hD hS hV hB hR hN hl hx one)
        | 46, q, _ => exact lv_tableIn (off := 1411) (tgt := 1444) S.1 S.2.1 dL_law_33 (by omega) (by omega) (by rw [q]; rfl) (by decide) (lc_storyLength C hP hD hS hV hB hR hN hl hx one)
        | 47, q, _ => exact lv_tableIn (off := 1424) (tgt := 1457) S.1 S.2.1 dL_law_33 (by omega) (by omega) (by rw [q]; rfl) (by decide) (lc_storyByte C hP hD hS hV hB hR hN hl hx one)
        | 48, q, _ => exact lv_tableIn (off := 1447) (tgt := 1480) S.1 S.2.1 dL_law_33 (by omega) (by omega) (by rw [q]; rfl) (by decide) (lc_setupLength C hP hD hS hV hB hR hN hl hx one)
        | 49, q, _ => exact lv_tableIn (off := 1460) (tgt := 1493) S.1 S.2.1 dL_law_33 (by omega) (by omega) (by rw [q]; rfl) (by decide) (lc_setupByte C hP hD hS hV hB hR hN hl hx one)
        | 50, q, _ => exact lv_tableIn (off := 1483) (tgt := 1516) S.1 S.2.1 dL_law_33 (by omega) (by omega) (by rw [q]; rfl) (by decide) (lc_tapeLength C hP hD hS hV hB hR hN hl hx one)
        | k + 51, _, hh => exact absurd hh (by omega)
