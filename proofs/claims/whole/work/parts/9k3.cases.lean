/-! THE LAW: its cases 9 to 13 -/
section LC
variable {D : va_G} {A : Nat → Prop} {α : Nat → Nat} {p : Program} {l : Launch} {e : Env} {m : MethodId} {c : Code} {meth : Method} {below : List Frame} {s : State} {b L N : Nat} {xs : Nat → Int32} {w : va_W} {H : Heap} {locs : List Loc} {ls : Array Slot} {x : Int32} {Q : State → Prop}
variable {P B Qs : Nat} {err pk pst pe tl dnB dnP nB nP day votes isOpen baskets lays recs fneed clos pastN logN hsN hsX txl mTaped mErr mPpl mBts mUs mRa mSt mKi mVal mLet mFin mNp mNb mOuts mWant mFnd : Int32} {tp dnums dbNames dpNames dfBoats nums bNames pNames fBoats boatO seaO faultO daysO backB sailB plc car bnd bsk dyL rsn pastF logF blB blC kpZ tx mTape mNum mNam mFst mBnm mW mUn mSl mKp mnNum mnNam mnBo mnBn : Nat → Int32} {hsF kpF : Nat → StT} {mWd : Int64}
theorem lc_give (C : LCtx D A p m c s b L xs) (hP : va_P D vwCl w H) (hD : va_D A w) (hS : va_S A s.heap H locs) (hV : SVW D α w err pk pst pe tp tl dnums dbNames dpNames dfBoats dnB dnP nums bNames pNames fBoats nB nP day votes isOpen baskets lays recs fneed clos boatO seaO faultO daysO backB sailB plc car bnd bsk dyL rsn pastF pastN logF logN blB blC hsN hsX hsF kpF kpZ tx txl) (hB : Blk w 234 (cM D α 234 mTaped mErr mPpl mBts mUs mRa mSt mKi mWd mVal mLet mFin mNp mNb mOuts mWant mFnd mTape mNum mNam mFst mBnm mW mUn mSl mKp mnNum mnNam mnBo mnBn)) (hR : RALL N P B Qs nums bNames pNames fBoats nB nP day votes isOpen baskets lays recs fneed clos boatO seaO faultO daysO backB sailB plc car bnd bsk dyL rsn pastF pastN logF logN hsN hsX hsF kpF kpZ tp tl err txl mTaped mErr mPpl mBts mUs mTape mNum mNam mFst mBnm mW mUn mSl mKp) (hN : N ≤ 600) (hl : lv_has ls 8 [(0, .ref b), (1, .ref (α 0)), (2, .ref (α 234)), (3, .int x)]) (hx : ∀ k : Int32, 1 ≤ k → k ≤ 5 → vp_in (x + k) L) (kk : ∀ (w1 : va_W) (H1 : Heap) (locs1 : List Loc), INV D α (N + 1) w1 → va_P D vwCl w1 H1 → va_D A w1 → va_S A s.heap H1 locs1 → W p l e room_1 s m #[Value.ref b] below meth c H1 locs1 248 12703 Q (F0 m 1529 ls [])) : W p l e room_1 s m #[Value.ref b] below meth c H locs 248 12703 Q (F0 m 509 ls []) := by
  obtain ⟨S, hK, hE, hX, hbl, hbA⟩ := C
  refine lv_aload_n S.1 S.2.1 dL_law_509 rfl (lv_at hl 1 rfl) ?_
  refine lv_aload_n S.1 S.2.1 dL_law_510 rfl (lv_at hl 0 rfl) ?_
  refine lv_iload_n S.1 S.2.1 dL_law_511 rfl (lv_at hl 3 rfl) ?_
  refine lv_iconst (v := 1) S.1 S.2.1 dL_law_512 (by decide) ?_
  refine lv_iadd S.1 S.2.1 dL_law_513 ?_
  refine va_sld S.1 S.2.1 hX hbl hbA hS (hx 1 (by decide) (by decide)) dL_law_514 ?_
  refine lv_aload_n S.1 S.2.1 dL_law_515 rfl (lv_at hl 0 rfl) ?_
  refine lv_iload_n S.1 S.2.1 dL_law_516 rfl (lv_at hl 3 rfl) ?_
  refine lv_iconst (v := 2) S.1 S.2.1 dL_law_517 (by decide) ?_
  refine lv_iadd S.1 S.2.1 dL_law_518 ?_
  refine va_sld S.1 S.2.1 hX hbl hbA hS (hx 2 (by decide) (by decide)) dL_law_519 ?_
  refine lv_aload_n S.1 S.2.1 dL_law_520 rfl (lv_at hl 0 rfl) ?_
  refine lv_iload_n S.1 S.2.1 dL_law_521 rfl (lv_at hl 3 rfl) ?_
  refine lv_iconst (v := 3) S.1 S.2.1 dL_law_522 (by decide) ?_
  refine lv_iadd S.1 S.2.1 dL_law_523 ?_
  refine va_sld S.1 S.2.1 hX hbl hbA hS (hx 3 (by decide) (by decide)) dL_law_524 ?_
  refine g_aft0 (st1 := [.int (f_X11_give nP day votes isOpen baskets lays recs fneed clos boatO seaO faultO daysO backB sailB plc car bnd bsk dyL rsn pastF pastN logF logN hsN hsX hsF (xs (x + 1).toNatClampNeg) (xs (x + 2).toNatClampNeg) (xs (x + 3).toNatClampNeg)).1]) (g_V (As := [.int (xs (x + 1).toNatClampNeg), .int (xs (x + 2).toNatClampNeg), .int (xs (x + 3).toNatClampNeg)]) (rest := []) S mi_X11_give qw745 (c_X11_give l D A w α err pk pst pe tp tl dnums dbNames dpNames dfBoats dnB dnP nums bNames pNames fBoats nB nP day votes isOpen baskets lays recs fneed clos boatO seaO faultO daysO backB sailB plc car bnd bsk dyL rsn pastF pastN logF logN blB blC hsN hsX hsF kpF kpZ tx txl (xs (x + 1).toNatClampNeg) (xs (x + 2).toNatClampNeg) (xs (x + 3).toNatClampNeg) hV) hK hP hD hE hS (hV.1 0 _ rfl) rfl rfl rfl hl.1 (Nat.le_of_ble_eq_true rfl) rfl rfl ⟨(Nat.le_of_ble_eq_true rfl), (Nat.le_of_ble_eq_true rfl)⟩ ⟨(Nat.le_of_ble_eq_true rfl), (Nat.le_of_ble_eq_true rfl)⟩ dL_law_525) hS rfl (fun w1 H locs hQ hP hD hS => ?_)
  have hB := hB.other hQ.2 (Or.inr (by decide))
  have hV2 := hQ.1
  refine lv_aload_n S.1 S.2.1 dL_law_528 rfl (lv_at hl 2 rfl) ?_
  refine lv_aload_n S.1 S.2.1 dL_law_529 rfl (lv_at hl 0 rfl) ?_
  refine lv_iload_n S.1 S.2.1 dL_law_530 rfl (lv_at hl 3 rfl) ?_
  refine lv_iconst (v := 1) S.1 S.2.1 dL_law_531 (by decide) ?_
  refine lv_iadd S.1 S.2.1 dL_law_532 ?_
  refine va_sld S.1 S.2.1 hX hbl hbA hS (hx 1 (by decide) (by decide)) dL_law_533 ?_
  refine lv_aload_n S.1 S.2.1 dL_law_534 rfl (lv_at hl 0 rfl) ?_
  refine lv_iload_n S.1 S.2.1 dL_law_535 rfl (lv_at hl 3 rfl) ?_
  refine lv_iconst (v := 2) S.1 S.2.1 dL_law_536 (by decide) ?_
  refine lv_iadd S.1 S.2.1 dL_law_537 ?_
  refine va_sld S.1 S.2.1 hX hbl hbA hS (hx 2 (by decide) (by decide)) dL_law_538 ?_
  refine lv_aload_n S.1 S.2.1 dL_law_539 rfl (lv_at hl 0 rfl) ?_
  refine lv_iload_n S.1 S.2.1 dL_law_540 rfl (lv_at hl 3 rfl) ?_
  refine lv_iconst (v := 3) S.1 S.2.1 dL_law_541 (by decide) ?_
  refine lv_iadd S.1 S.2.1 dL_law_542 ?_
  refine va_sld S.1 S.2.1 hX hbl hbA hS (hx 3 (by decide) (by decide)) dL_law_543 ?_
  refine g_aft0 (st1 := [.int (f_X12_give mPpl mUs mW mUn (xs (x + 1).toNatClampNeg) (xs (x + 2).toNatClampNeg) (xs (x + 3).toNatClampNeg)).1, .int (f_X11_give nP day votes isOpen baskets lays recs fneed clos boatO seaO faultO daysO backB sailB plc car bnd bsk dyL rsn pastF pastN logF logN hsN hsX hsF (xs (x + 1).toNatClampNeg) (xs (x + 2).toNatClampNeg) (xs (x + 3).toNatClampNeg)).1]) (g_V (As := [.int (xs (x + 1).toNatClampNeg), .int (xs (x + 2).toNatClampNeg), .int (xs (x + 3).toNatClampNeg)]) (rest := [.int (f_X11_give nP day votes isOpen baskets lays recs fneed clos boatO seaO faultO daysO backB sailB plc car bnd bsk dyL rsn pastF pastN logF logN hsN hsX hsF (xs (x + 1).toNatClampNeg) (xs (x + 2).toNatClampNeg) (xs (x + 3).toNatClampNeg)).1]) S mi_X12_give qw1633 (c_X12_give l D A w1 α 234 mTaped mErr mPpl mBts mUs mRa mSt mKi mWd mVal mLet mFin mNp mNb mOuts mWant mFnd mTape mNum mNam mFst mBnm mW mUn mSl mKp mnNum mnNam mnBo mnBn (xs (x + 1).toNatClampNeg) (xs (x + 2).toNatClampNeg) (xs (x + 3).toNatClampNeg) hB (rh_us hR) (rh_ppl hR) (rh_bts hR)) hK hP hD hE hS (hB 0 _ rfl) rfl rfl rfl hl.1 (Nat.le_of_ble_eq_true rfl) rfl rfl ⟨(Nat.le_of_ble_eq_true rfl), (Nat.le_of_ble_eq_true rfl)⟩ ⟨(Nat.le_of_ble_eq_true rfl), (Nat.le_of_ble_eq_true rfl)⟩ dL_law_544) hS rfl (fun w2 H locs hQ2 hP hD hS => ?_)
  have hV3 := hV2.agree (fun j hj => (hQ2.2).2 j (Or.inl hj))
  have hB3 := hQ2.1
  obtain ⟨hA, hR3⟩ := ra_give hR hN (xs (x + 1).toNatClampNeg) (xs (x + 2).toNatClampNeg) (xs (x + 3).toNatClampNeg)
  refine lv_icmp_eq (tgt := 1529) S.1 S.2.1 dL_law_547 (by decide) (fun _ => ?_) (fun z => absurd hA z)
  exact kk _ _ _ (INV.mk hV3 hB3 hR3) hP hD hS
theorem lc_takeBack (C : LCtx D A p m c s b L xs) (hP : va_P D vwCl w H) (hD : va_D A w) (hS : va_S A s.heap H locs) (hV : SVW D α w err pk pst pe tp tl dnums dbNames dpNames dfBoats dnB dnP nums bNames pNames fBoats nB nP day votes isOpen baskets lays recs fneed clos boatO seaO faultO daysO backB sailB plc car bnd bsk dyL rsn pastF pastN logF logN blB blC hsN hsX hsF kpF kpZ tx txl) (hB : Blk w 234 (cM D α 234 mTaped mErr mPpl mBts mUs mRa mSt mKi mWd mVal mLet mFin mNp mNb mOuts mWant mFnd mTape mNum mNam mFst mBnm mW mUn mSl mKp mnNum mnNam mnBo mnBn)) (hR : RALL N P B Qs nums bNames pNames fBoats nB nP day votes isOpen baskets lays recs fneed clos boatO seaO faultO daysO backB sailB plc car bnd bsk dyL rsn pastF pastN logF logN hsN hsX hsF kpF kpZ tp tl err txl mTaped mErr mPpl mBts mUs mTape mNum mNam mFst mBnm mW mUn mSl mKp) (hN : N ≤ 600) (hl : lv_has ls 8 [(0, .ref b), (1, .ref (α 0)), (2, .ref (α 234)), (3, .int x)]) (hx : ∀ k : Int32, 1 ≤ k → k ≤ 5 → vp_in (x + k) L) (kk : ∀ (w1 : va_W) (H1 : Heap) (locs1 : List Loc), INV D α (N + 1) w1 → va_P D vwCl w1 H1 → va_D A w1 → va_S A s.heap H1 locs1 → W p l e room_1 s m #[Value.ref b] below meth c H1 locs1 248 12703 Q (F0 m 1529 ls [])) : W p l e room_1 s m #[Value.ref b] below meth c H locs 248 12703 Q (F0 m 552 ls []) := by
  obtain ⟨S, hK, hE, hX, hbl, hbA⟩ := C
  refine lv_aload_n S.1 S.2.1 dL_law_552 rfl (lv_at hl 1 rfl) ?_
  refine lv_aload_n S.1 S.2.1 dL_law_553 rfl (lv_at hl 0 rfl) ?_
  refine lv_iload_n S.1 S.2.1 dL_law_554 rfl (lv_at hl 3 rfl) ?_
  refine lv_iconst (v := 1) S.1 S.2.1 dL_law_555 (by decide) ?_
  refine lv_iadd S.1 S.2.1 dL_law_556 ?_
  refine va_sld S.1 S.2.1 hX hbl hbA hS (hx 1 (by decide) (by decide)) dL_law_557 ?_
  refine g_aft0 (st1 := [.int (f_X11_takeBack nP day votes isOpen baskets lays recs fneed clos boatO seaO faultO daysO backB sailB plc car bnd bsk dyL rsn pastF pastN logF logN hsN hsX hsF (xs (x + 1).toNatClampNeg)).1]) (g_V (As := [.int (xs (x + 1).toNatClampNeg)]) (rest := []) S mi_X11_takeBack qw771 (c_X11_takeBack l D A w α err pk pst pe tp tl dnums dbNames dpNames dfBoats dnB dnP nums bNames pNames fBoats nB nP day votes isOpen baskets lays recs fneed clos boatO seaO faultO daysO backB sailB plc car bnd bsk dyL rsn pastF pastN logF logN blB blC hsN hsX hsF kpF kpZ tx txl (xs (x + 1).toNatClampNeg) hV) hK hP hD hE hS (hV.1 0 _ rfl) rfl rfl rfl hl.1 (Nat.le_of_ble_eq_true rfl) rfl rfl ⟨(Nat.le_of_ble_eq_true rfl), (Nat.le_of_ble_eq_true rfl)⟩ ⟨(Nat.le_of_ble_eq_true rfl), (Nat.le_of_ble_eq_true rfl)⟩ dL_law_558) hS rfl (fun w1 H locs hQ hP hD hS => ?_)
  have hB := hB.other hQ.2 (Or.inr (by decide))
  have hV2 := hQ.1
  refine lv_aload_n S.1 S.2.1 dL_law_561 rfl (lv_at hl 2 rfl) ?_
  refine lv_aload_n S.1 S.2.1 dL_law_562 rfl (lv_at hl 0 rfl) ?_
  refine lv_iload_n S.1 S.2.1 dL_law_563 rfl (lv_at hl 3 rfl) ?_
  refine lv_iconst (v := 1) S.1 S.2.1 dL_law_564 (by decide) ?_
  refine lv_iadd S.1 S.2.1 dL_law_565 ?_
  refine va_sld S.1 S.2.1 hX hbl hbA hS (hx 1 (by decide) (by decide)) dL_law_566 ?_
  refine g_aft0 (st1 := [.int (f_X12_takeBack mPpl mUs mW mUn (xs (x + 1).toNatClampNeg)).1, .int (f_X11_takeBack nP day votes isOpen baskets lays recs fneed clos boatO seaO faultO daysO backB sailB plc car bnd bsk dyL rsn pastF pastN logF logN hsN hsX hsF (xs (x + 1).toNatClampNeg)).1]) (g_V (As := [.int (xs (x + 1).toNatClampNeg)]) (rest := [.int (f_X11_takeBack nP day votes isOpen baskets lays recs fneed clos boatO seaO faultO daysO backB sailB plc car bnd bsk dyL rsn pastF pastN logF logN hsN hsX hsF (xs (x + 1).toNatClampNeg)).1]) S mi_X12_takeBack qw1648 (c_X12_takeBack l D A w1 α 234 mTaped mErr mPpl mBts mUs mRa mSt mKi mWd mVal mLet mFin mNp mNb mOuts mWant mFnd mTape mNum mNam mFst mBnm mW mUn mSl mKp mnNum mnNam mnBo mnBn (xs (x + 1).toNatClampNeg) hB (rh_us hR) (rh_ppl hR) (rh_of56 hR)) hK hP hD hE hS (hB 0 _ rfl) rfl rfl rfl hl.1 (Nat.le_of_ble_eq_true rfl) rfl rfl ⟨(Nat.le_of_ble_eq_true rfl), (Nat.le_of_ble_eq_true rfl)⟩ ⟨(Nat.le_of_ble_eq_true rfl), (Nat.le_of_ble_eq_true rfl)⟩ dL_law_567) hS rfl (fun w2 H locs hQ2 hP hD hS => ?_)
  have hV3 := hV2.agree (fun j hj => (hQ2.2).2 j (Or.inl hj))
  have hB3 := hQ2.1
  obtain ⟨hA, hR3⟩ := ra_takeBack hR hN (xs (x + 1).toNatClampNeg)
  refine lv_icmp_eq (tgt := 1529) S.1 S.2.1 dL_law_570 (by decide) (fun _ => ?_) (fun z => absurd hA z)
  exact kk _ _ _ (INV.mk hV3 hB3 hR3) hP hD hS
theorem lc_lay (C : LCtx D A p m c s b L xs) (hP : va_P D vwCl w H) (hD : va_D A w) (hS : va_S A s.heap H locs) (hV : SVW D α w err pk pst pe tp tl dnums dbNames dpNames dfBoats dnB dnP nums bNames pNames fBoats nB nP day votes isOpen baskets lays recs fneed clos boatO seaO faultO daysO backB sailB plc car bnd bsk dyL rsn pastF pastN logF logN blB blC hsN hsX hsF kpF kpZ tx txl) (hB : Blk w 234 (cM D α 234 mTaped mErr mPpl mBts mUs mRa mSt mKi mWd mVal mLet mFin mNp mNb mOuts mWant mFnd mTape mNum mNam mFst mBnm mW mUn mSl mKp mnNum mnNam mnBo mnBn)) (hR : RALL N P B Qs nums bNames pNames fBoats nB nP day votes isOpen baskets lays recs fneed clos boatO seaO faultO daysO backB sailB plc car bnd bsk dyL rsn pastF pastN logF logN hsN hsX hsF kpF kpZ tp tl err txl mTaped mErr mPpl mBts mUs mTape mNum mNam mFst mBnm mW mUn mSl mKp) (hN : N ≤ 600) (hl : lv_has ls 8 [(0, .ref b), (1, .ref (α 0)), (2, .ref (α 234)), (3, .int x)]) (hx : ∀ k : Int32, 1 ≤ k → k ≤ 5 → vp_in (x + k) L) (kk : ∀ (w1 : va_W) (H1 : Heap) (locs1 : List Loc), INV D α (N + 1) w1 → va_P D vwCl w1 H1 → va_D A w1 → va_S A s.heap H1 locs1 → W p l e room_1 s m #[Value.ref b] below meth c H1 locs1 248 12703 Q (F0 m 1529 ls [])) : W p l e room_1 s m #[Value.ref b] below meth c H locs 248 12703 Q (F0 m 575 ls []) := by
  obtain ⟨S, hK, hE, hX, hbl, hbA⟩ := C
  refine lv_aload_n S.1 S.2.1 dL_law_575 rfl (lv_at hl 1 rfl) ?_
  refine lv_aload_n S.1 S.2.1 dL_law_576 rfl (lv_at hl 0 rfl) ?_
  refine lv_iload_n S.1 S.2.1 dL_law_577 rfl (lv_at hl 3 rfl) ?_
  refine lv_iconst (v := 1) S.1 S.2.1 dL_law_578 (by decide) ?_
  refine lv_iadd S.1 S.2.1 dL_law_579 ?_
  refine va_sld S.1 S.2.1 hX hbl hbA hS (hx 1 (by decide) (by decide)) dL_law_580 ?_
  refine lv_aload_n S.1 S.2.1 dL_law_581 rfl (lv_at hl 0 rfl) ?_
  refine lv_iload_n S.1 S.2.1 dL_law_582 rfl (lv_at hl 3 rfl) ?_
  refine lv_iconst (v := 2) S.1 S.2.1 dL_law_583 (by decide) ?_
  refine lv_iadd S.1 S.2.1 dL_law_584 ?_
  refine va_sld S.1 S.2.1 hX hbl hbA hS (hx 2 (by decide) (by decide)) dL_law_585 ?_
  refine lv_aload_n S.1 S.2.1 dL_law_586 rfl (lv_at hl 0 rfl) ?_
  refine lv_iload_n S.1 S.2.1 dL_law_587 rfl (lv_at hl 3 rfl) ?_
  refine lv_iconst (v := 3) S.1 S.2.1 dL_law_588 (by decide) ?_
  refine lv_iadd S.1 S.2.1 dL_law_589 ?_
  refine va_sld S.1 S.2.1 hX hbl hbA hS (hx 3 (by decide) (by decide)) dL_law_590 ?_
  refine g_aft0 (st1 := [.int (f_X11_lay nums nP day votes isOpen baskets lays recs fneed clos boatO seaO faultO daysO backB sailB plc car bnd bsk dyL rsn pastF pastN logF logN hsN hsX hsF (xs (x + 1).toNatClampNeg) (xs (x + 2).toNatClampNeg) (xs (x + 3).toNatClampNeg)).1]) (g_V (As := [.int (xs (x + 1).toNatClampNeg), .int (xs (x + 2).toNatClampNeg), .int (xs (x + 3).toNatClampNeg)]) (rest := []) S mi_X11_lay qw780 (c_X11_lay l D A w α err pk pst pe tp tl dnums dbNames dpNames dfBoats dnB dnP nums bNames pNames fBoats nB nP day votes isOpen baskets lays recs fneed clos boatO seaO faultO daysO backB sailB plc car bnd bsk dyL rsn pastF pastN logF logN blB blC hsN hsX hsF kpF kpZ tx txl (xs (x + 1).toNatClampNeg) (xs (x + 2).toNatClampNeg) (xs (x + 3).toNatClampNeg) hV) hK hP hD hE hS (hV.1 0 _ rfl) rfl rfl rfl hl.1 (Nat.le_of_ble_eq_true rfl) rfl rfl ⟨(Nat.le_of_ble_eq_true rfl), (Nat.le_of_ble_eq_true rfl)⟩ ⟨(Nat.le_of_ble_eq_true rfl), (Nat.le_of_ble_eq_true rfl)⟩ dL_law_591) hS rfl (fun w1 H locs hQ hP hD hS => ?_)
  have hB := hB.other hQ.2 (Or.inr (by decide))
  have hV2 := hQ.1
  refine lv_aload_n S.1 S.2.1 dL_law_594 rfl (lv_at hl 2 rfl) ?_
  refine lv_aload_n S.1 S.2.1 dL_law_595 rfl (lv_at hl 0 rfl) ?_
  refine lv_iload_n S.1 S.2.1 dL_law_596 rfl (lv_at hl 3 rfl) ?_
  refine lv_iconst (v := 1) S.1 S.2.1 dL_law_597 (by decide) ?_
  refine lv_iadd S.1 S.2.1 dL_law_598 ?_
  refine va_sld S.1 S.2.1 hX hbl hbA hS (hx 1 (by decide) (by decide)) dL_law_599 ?_
  refine lv_aload_n S.1 S.2.1 dL_law_600 rfl (lv_at hl 0 rfl) ?_
  refine lv_iload_n S.1 S.2.1 dL_law_601 rfl (lv_at hl 3 rfl) ?_
  refine lv_iconst (v := 2) S.1 S.2.1 dL_law_602 (by decide) ?_
  refine lv_iadd S.1 S.2.1 dL_law_603 ?_
  refine va_sld S.1 S.2.1 hX hbl hbA hS (hx 2 (by decide) (by decide)) dL_law_604 ?_
  refine lv_aload_n S.1 S.2.1 dL_law_605 rfl (lv_at hl 0 rfl) ?_
  refine lv_iload_n S.1 S.2.1 dL_law_606 rfl (lv_at hl 3 rfl) ?_
  refine lv_iconst (v := 3) S.1 S.2.1 dL_law_607 (by decide) ?_
  refine lv_iadd S.1 S.2.1 dL_law_608 ?_
  refine va_sld S.1 S.2.1 hX hbl hbA hS (hx 3 (by decide) (by decide)) dL_law_609 ?_
  refine g_aft0 (st1 := [.int (f_X12_lay mPpl mUs mNum mW mUn (xs (x + 1).toNatClampNeg) (xs (x + 2).toNatClampNeg) (xs (x + 3).toNatClampNeg)).1, .int (f_X11_lay nums nP day votes isOpen baskets lays recs fneed clos boatO seaO faultO daysO backB sailB plc car bnd bsk dyL rsn pastF pastN logF logN hsN hsX hsF (xs (x + 1).toNatClampNeg) (xs (x + 2).toNatClampNeg) (xs (x + 3).toNatClampNeg)).1]) (g_V (As := [.int (xs (x + 1).toNatClampNeg), .int (xs (x + 2).toNatClampNeg), .int (xs (x + 3).toNatClampNeg)]) (rest := [.int (f_X11_lay nums nP day votes isOpen baskets lays recs fneed clos boatO seaO faultO daysO backB sailB plc car bnd bsk dyL rsn pastF pastN logF logN hsN hsX hsF (xs (x + 1).toNatClampNeg) (xs (x + 2).toNatClampNeg) (xs (x + 3).toNatClampNeg)).1]) S mi_X12_lay qw1652 (c_X12_lay l D A w1 α 234 mTaped mErr mPpl mBts mUs mRa mSt mKi mWd mVal mLet mFin mNp mNb mOuts mWant mFnd mTape mNum mNam mFst mBnm mW mUn mSl mKp mnNum mnNam mnBo mnBn (xs (x + 1).toNatClampNeg) (xs (x + 2).toNatClampNeg) (xs (x + 3).toNatClampNeg) hB (rh_us hR) (rh_ppl hR) (rh_lg hR)) hK hP hD hE hS (hB 0 _ rfl) rfl rfl rfl hl.1 (Nat.le_of_ble_eq_true rfl) rfl rfl ⟨(Nat.le_of_ble_eq_true rfl), (Nat.le_of_ble_eq_true rfl)⟩ ⟨(Nat.le_of_ble_eq_true rfl), (Nat.le_of_ble_eq_true rfl)⟩ dL_law_610) hS rfl (fun w2 H locs hQ2 hP hD hS => ?_)
  have hV3 := hV2.agree (fun j hj => (hQ2.2).2 j (Or.inl hj))
  have hB3 := hQ2.1
  obtain ⟨hA, hR3⟩ := ra_lay hR hN (xs (x + 1).toNatClampNeg) (xs (x + 2).toNatClampNeg) (xs (x + 3).toNatClampNeg)
  refine lv_icmp_eq (tgt := 1529) S.1 S.2.1 dL_law_613 (by decide) (fun _ => ?_) (fun z => absurd hA z)
  exact kk _ _ _ (INV.mk hV3 hB3 hR3) hP hD hS
theorem lc_contest (C : LCtx D A p m c s b L xs) (hP : va_P D vwCl w H) (hD : va_D A w) (hS : va_S A s.heap H locs) (hV : SVW D α w err pk pst pe tp tl dnums dbNames dpNames dfBoats dnB dnP nums bNames pNames fBoats nB nP day votes isOpen baskets lays recs fneed clos boatO seaO faultO daysO backB sailB plc car bnd bsk dyL rsn pastF pastN logF logN blB blC hsN hsX hsF kpF kpZ tx txl) (hB : Blk w 234 (cM D α 234 mTaped mErr mPpl mBts mUs mRa mSt mKi mWd mVal mLet mFin mNp mNb mOuts mWant mFnd mTape mNum mNam mFst mBnm mW mUn mSl mKp mnNum mnNam mnBo mnBn)) (hR : RALL N P B Qs nums bNames pNames fBoats nB nP day votes isOpen baskets lays recs fneed clos boatO seaO faultO daysO backB sailB plc car bnd bsk dyL rsn pastF pastN logF logN hsN hsX hsF kpF kpZ tp tl err txl mTaped mErr mPpl mBts mUs mTape mNum mNam mFst mBnm mW mUn mSl mKp) (hN : N ≤ 600) (hl : lv_has ls 8 [(0, .ref b), (1, .ref (α 0)), (2, .ref (α 234)), (3, .int x)]) (hx : ∀ k : Int32, 1 ≤ k → k ≤ 5 → vp_in (x + k) L) (kk : ∀ (w1 : va_W) (H1 : Heap) (locs1 : List Loc), INV D α (N + 1) w1 → va_P D vwCl w1 H1 → va_D A w1 → va_S A s.heap H1 locs1 → W p l e room_1 s m #[Value.ref b] below meth c H1 locs1 248 12703 Q (F0 m 1529 ls [])) : W p l e room_1 s m #[Value.ref b] below meth c H locs 248 12703 Q (F0 m 618 ls []) := by
  obtain ⟨S, hK, hE, hX, hbl, hbA⟩ := C
  refine lv_aload_n S.1 S.2.1 dL_law_618 rfl (lv_at hl 1 rfl) ?_
  refine lv_aload_n S.1 S.2.1 dL_law_619 rfl (lv_at hl 0 rfl) ?_
  refine lv_iload_n S.1 S.2.1 dL_law_620 rfl (lv_at hl 3 rfl) ?_
  refine lv_iconst (v := 1) S.1 S.2.1 dL_law_621 (by decide) ?_
  refine lv_iadd S.1 S.2.1 dL_law_622 ?_
  refine va_sld S.1 S.2.1 hX hbl hbA hS (hx 1 (by decide) (by decide)) dL_law_623 ?_
  refine lv_aload_n S.1 S.2.1 dL_law_624 rfl (lv_at hl 0 rfl) ?_
  refine lv_iload_n S.1 S.2.1 dL_law_625 rfl (lv_at hl 3 rfl) ?_
  refine lv_iconst (v := 2) S.1 S.2.1 dL_law_626 (by decide) ?_
  refine lv_iadd S.1 S.2.1 dL_law_627 ?_
  refine va_sld S.1 S.2.1 hX hbl hbA hS (hx 2 (by decide) (by decide)) dL_law_628 ?_
  refine g_aft0 (st1 := [.int (f_X11_contest nums nP day votes isOpen baskets lays recs fneed clos boatO seaO faultO daysO backB sailB plc car bnd bsk dyL rsn pastF pastN logF logN blB blC hsN hsX hsF (xs (x + 1).toNatClampNeg) (xs (x + 2).toNatClampNeg)).1]) (g_V (As := [.int (xs (x + 1).toNatClampNeg), .int (xs (x + 2).toNatClampNeg)]) (rest := []) S mi_X11_contest qw830 (c_X11_contest l D A w α err pk pst pe tp tl dnums dbNames dpNames dfBoats dnB dnP nums bNames pNames fBoats nB nP day votes isOpen baskets lays recs fneed clos boatO seaO faultO daysO backB sailB plc car bnd bsk dyL rsn pastF pastN logF logN blB blC hsN hsX hsF kpF kpZ tx txl (xs (x + 1).toNatClampNeg) (xs (x + 2).toNatClampNeg) hV) hK hP hD hE hS (hV.1 0 _ rfl) rfl rfl rfl hl.1 (Nat.le_of_ble_eq_true rfl) rfl rfl ⟨(Nat.le_of_ble_eq_true rfl), (Nat.le_of_ble_eq_true rfl)⟩ ⟨(Nat.le_of_ble_eq_true rfl), (Nat.le_of_ble_eq_true rfl)⟩ dL_law_629) hS rfl (fun w1 H locs hQ hP hD hS => ?_)
  have hB := hB.other hQ.2 (Or.inr (by decide))
  have hV2 := hQ.1
  refine lv_aload_n S.1 S.2.1 dL_law_632 rfl (lv_at hl 2 rfl) ?_
  refine lv_aload_n S.1 S.2.1 dL_law_633 rfl (lv_at hl 0 rfl) ?_
  refine lv_iload_n S.1 S.2.1 dL_law_634 rfl (lv_at hl 3 rfl) ?_
  refine lv_iconst (v := 1) S.1 S.2.1 dL_law_635 (by decide) ?_
  refine lv_iadd S.1 S.2.1 dL_law_636 ?_
  refine va_sld S.1 S.2.1 hX hbl hbA hS (hx 1 (by decide) (by decide)) dL_law_637 ?_
  refine lv_aload_n S.1 S.2.1 dL_law_638 rfl (lv_at hl 0 rfl) ?_
  refine lv_iload_n S.1 S.2.1 dL_law_639 rfl (lv_at hl 3 rfl) ?_
  refine lv_iconst (v := 2) S.1 S.2.1 dL_law_640 (by decide) ?_
  refine lv_iadd S.1 S.2.1 dL_law_641 ?_
  refine va_sld S.1 S.2.1 hX hbl hbA hS (hx 2 (by decide) (by decide)) dL_law_642 ?_
  refine g_aft0 (st1 := [.int (f_X12_contest mPpl mBts mUs mNum mW mUn (xs (x + 1).toNatClampNeg) (xs (x + 2).toNatClampNeg)).1, .int (f_X11_contest nums nP day votes isOpen baskets lays recs fneed clos boatO seaO faultO daysO backB sailB plc car bnd bsk dyL rsn pastF pastN logF logN blB blC hsN hsX hsF (xs (x + 1).toNatClampNeg) (xs (x + 2).toNatClampNeg)).1]) (g_V (As := [.int (xs (x + 1).toNatClampNeg), .int (xs (x + 2).toNatClampNeg)]) (rest := [.int (f_X11_contest nums nP day votes isOpen baskets lays recs fneed clos boatO seaO faultO daysO backB sailB plc car bnd bsk dyL rsn pastF pastN logF logN blB blC hsN hsX hsF (xs (x + 1).toNatClampNeg) (xs (x + 2).toNatClampNeg)).1]) S mi_X12_contest qw1672 (c_X12_contest l D A w1 α 234 mTaped mErr mPpl mBts mUs mRa mSt mKi mWd mVal mLet mFin mNp mNb mOuts mWant mFnd mTape mNum mNam mFst mBnm mW mUn mSl mKp mnNum mnNam mnBo mnBn (xs (x + 1).toNatClampNeg) (xs (x + 2).toNatClampNeg) hB (rh_us hR) (rh_ppl hR) (rh_day0 hR hN) (rh_num hR) (rh_bts hR) (rh_lg hR)) hK hP hD hE hS (hB 0 _ rfl) rfl rfl rfl hl.1 (Nat.le_of_ble_eq_true rfl) rfl rfl ⟨(Nat.le_of_ble_eq_true rfl), (Nat.le_of_ble_eq_true rfl)⟩ ⟨(Nat.le_of_ble_eq_true rfl), (Nat.le_of_ble_eq_true rfl)⟩ dL_law_643) hS rfl (fun w2 H locs hQ2 hP hD hS => ?_)
  have hV3 := hV2.agree (fun j hj => (hQ2.2).2 j (Or.inl hj))
  have hB3 := hQ2.1
  obtain ⟨hA, hR3⟩ := ra_contest hR hN (xs (x + 1).toNatClampNeg) (xs (x + 2).toNatClampNeg)
  refine lv_icmp_eq (tgt := 1529) S.1 S.2.1 dL_law_646 (by decide) (fun _ => ?_) (fun z => absurd hA z)
  exact kk _ _ _ (INV.mk hV3 hB3 hR3) hP hD hS
theorem lc_close (C : LCtx D A p m c s b L xs) (hP : va_P D vwCl w H) (hD : va_D A w) (hS : va_S A s.heap H locs) (hV : SVW D α w err pk pst pe tp tl dnums dbNames dpNames dfBoats dnB dnP nums bNames pNames fBoats nB nP day votes isOpen baskets lays recs fneed clos boatO seaO faultO daysO backB sailB plc car bnd bsk dyL rsn pastF pastN logF logN blB blC hsN hsX hsF kpF kpZ tx txl) (hB : Blk w 234 (cM D α 234 mTaped mErr mPpl mBts mUs mRa mSt mKi mWd mVal mLet mFin mNp mNb mOuts mWant mFnd mTape mNum mNam mFst mBnm mW mUn mSl mKp mnNum mnNam mnBo mnBn)) (hR : RALL N P B Qs nums bNames pNames fBoats nB nP day votes isOpen baskets lays recs fneed clos boatO seaO faultO daysO backB sailB plc car bnd bsk dyL rsn pastF pastN logF logN hsN hsX hsF kpF kpZ tp tl err txl mTaped mErr mPpl mBts mUs mTape mNum mNam mFst mBnm mW mUn mSl mKp) (hN : N ≤ 600) (hl : lv_has ls 8 [(0, .ref b), (1, .ref (α 0)), (2, .ref (α 234)), (3, .int x)]) (hx : ∀ k : Int32, 1 ≤ k → k ≤ 5 → vp_in (x + k) L) (kk : ∀ (w1 : va_W) (H1 : Heap) (locs1 : List Loc), INV D α (N + 1) w1 → va_P D vwCl w1 H1 → va_D A w1 → va_S A s.heap H1 locs1 → W p l e room_1 s m #[Value.ref b] below meth c H1 locs1 248 12703 Q (F0 m 1529 ls [])) : W p l e room_1 s m #[Value.ref b] below meth c H locs 248 12703 Q (F0 m 651 ls []) := by
  obtain ⟨S, hK, hE, hX, hbl, hbA⟩ := C
  refine lv_aload_n S.1 S.2.1 dL_law_651 rfl (lv_at hl 1 rfl) ?_
  refine g_aft0 (st1 := [.int (f_X11_close nums nP day votes isOpen baskets lays recs fneed clos boatO seaO faultO daysO backB sailB plc car bnd bsk dyL rsn pastF pastN logF logN blB blC hsN hsX hsF).1]) (g_V (As := []) (rest := []) S mi_X11_close qw939 (c_X11_close l D A w α err pk pst pe tp tl dnums dbNames dpNames dfBoats dnB dnP nums bNames pNames fBoats nB nP day votes isOpen baskets lays recs fneed clos boatO seaO faultO daysO backB sailB plc car bnd bsk dyL rsn pastF pastN logF logN blB blC hsN hsX hsF kpF kpZ tx txl hV) hK hP hD hE hS (hV.1 0 _ rfl) rfl rfl rfl hl.1 (Nat.le_of_ble_eq_true rfl) rfl rfl ⟨(Nat.le_of_ble_eq_true rfl), (Nat.le_of_ble_eq_true rfl)⟩ ⟨(Nat.le_of_ble_eq_true rfl), (Nat.le_of_ble_eq_true rfl)⟩ dL_law_652) hS rfl (fun w1 H locs hQ hP hD hS => ?_)
  have hB := hB.other hQ.2 (Or.inr (by decide))
  have hV2 := hQ.1
  refine lv_aload_n S.1 S.2.1 dL_law_655 rfl (lv_at hl 2 rfl) ?_
  refine g_aft0 (st1 := [.int (f_X12_close mPpl mBts mUs mNum mW mUn).1, .int (f_X11_close nums nP day votes isOpen baskets lays recs fneed clos boatO seaO faultO daysO backB sailB plc car bnd bsk dyL rsn pastF pastN logF logN blB blC hsN hsX hsF).1]) (g_V (As := []) (rest := [.int (f_X11_close nums nP day votes isOpen baskets lays recs fneed clos boatO seaO faultO daysO backB sailB plc car bnd bsk dyL rsn pastF pastN logF logN blB blC hsN hsX hsF).1]) S mi_X12_close qw1727 (c_X12_close l D A w1 α 234 mTaped mErr mPpl mBts mUs mRa mSt mKi mWd mVal mLet mFin mNp mNb mOuts mWant mFnd mTape mNum mNam mFst mBnm mW mUn mSl mKp mnNum mnNam mnBo mnBn hB (rh_us hR) (rh_ppl hR) (rh_day0 hR hN) (rh_num hR) (rh_bts hR) (rh_lg hR) (rh_open hR hN)) hK hP hD hE hS (hB 0 _ rfl) rfl rfl rfl hl.1 (Nat.le_of_ble_eq_true rfl) rfl rfl ⟨(Nat.le_of_ble_eq_true rfl), (Nat.le_of_ble_eq_true rfl)⟩ ⟨(Nat.le_of_ble_eq_true rfl), (Nat.le_of_ble_eq_true rfl)⟩ dL_law_656) hS rfl (fun w2 H locs hQ2 hP hD hS => ?_)
  have hV3 := hV2.agree (fun j hj => (hQ2.2).2 j (Or.inl hj))
  have hB3 := hQ2.1
  obtain ⟨hA, hR3⟩ := ra_close hR hN
  refine lv_icmp_eq (tgt := 1529) S.1 S.2.1 dL_law_659 (by decide) (fun _ => ?_) (fun z => absurd hA z)
  exact kk _ _ _ (INV.mk hV3 hB3 hR3) hP hD hS
end LC
